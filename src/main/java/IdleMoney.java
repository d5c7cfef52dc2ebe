import java.util.NoSuchElementException;

/**
 * A bank whose accounts sleep by kinds and lands. The promises that the comments name are
 * those of the document, ../shared/DOC.md.
 */
public final class IdleMoney {
    public static final int NONE = -1;

    private static final int TAPE_LIMIT = 600;
    private static final int BYTES_A_FEED = 20;
    private static final int LAND_LIMIT = 5;
    private static final int KINDS = 5;
    private static final int ACCOUNT_LIMIT = 12;
    private static final int CENTS_LIMIT = 100_000_000;
    private static final int MOVED_CENTS_LIMIT = 1_000_000;
    private static final int MONTH_LIMIT = 6_000;
    private static final int MONTHS_A_CALL = 120;
    private static final int MONTHS_LOOKED_AHEAD = 600;
    private static final int UNDO_LIMIT = 8;
    private static final int ROW_CELLS = 5;

    /** A rate is so many of 10,000 a year, and a month is a twelfth of it. */
    private static final int RATE_PARTS = 120_000;

    private static final int AWAKE = 0;
    private static final int WRITTEN = 1;
    private static final int HANDED = 2;
    private static final int CLAIMED = 3;
    private static final int CLOSED = 4;

    private final Reader reader;
    private final Forecast forecast;
    private final World[] past;
    private World world;
    private int tapeLength;
    private int faultPlace;
    private int pastCount;
    private int refusedAsNoSuch;
    private int refusedByArgument;
    private int refusedByState;

    public IdleMoney() {
        reader = new Reader();
        forecast = new Forecast();
        world = new World();
        past = new World[UNDO_LIMIT];
        for (int i = 0; i < past.length; i++) {
            past[i] = new World();
        }
        faultPlace = NONE;
    }

    public int feed(int a, int b, int c, int d, int e) {
        if (tapeLength + BYTES_A_FEED > TAPE_LIMIT) {
            return NONE;
        }
        putOnTape(a);
        putOnTape(b);
        putOnTape(c);
        putOnTape(d);
        putOnTape(e);
        return tapeLength;
    }

    public int text(int n) throws IllegalArgumentException {
        refuseArgument(n < 0 || n > tapeLength);
        tapeLength = 0;
        int fault = reader.read(n);
        if (fault != 0) {
            faultPlace = reader.place;
            return fault - 10;
        }
        faultPlace = NONE;
        remember();
        world.begin(reader.rules);
        return world.rules.landCount;
    }

    public int fault() {
        return faultPlace;
    }

    public int open(int kind, int address, int birth, int cents)
            throws NoSuchElementException, IllegalArgumentException, IllegalStateException {
        refuseNoSuch(!world.rules.isLandOrNone(address) || !world.rules.isLandOrNone(birth));
        refuseArgument(!isWithin(kind, 0, KINDS - 1) || !isWithin(cents, 0, CENTS_LIMIT));
        refuseState(world.accountCount >= ACCOUNT_LIMIT);
        remember();
        world.accounts[world.accountCount].start(kind, address, birth, cents);
        world.accountCount++;
        return world.accountCount - 1;
    }

    public int contact(int account) throws NoSuchElementException, IllegalStateException {
        refuseNoSuch(!world.hasAccount(account));
        Account one = world.accounts[account];
        refuseState(!one.isWithBank());
        remember();
        int since = one.since;
        one.wake();
        return since;
    }

    public int deposit(int account, int cents)
            throws NoSuchElementException, IllegalArgumentException, IllegalStateException {
        refuseNoSuch(!world.hasAccount(account));
        refuseArgument(!isWithin(cents, 1, MOVED_CENTS_LIMIT));
        Account one = world.accounts[account];
        refuseState(!one.isWithBank() || one.cents > CENTS_LIMIT - cents);
        remember();
        one.bringIn(cents);
        one.wake();
        return one.cents;
    }

    public int draw(int account, int cents)
            throws NoSuchElementException, IllegalArgumentException, IllegalStateException {
        refuseNoSuch(!world.hasAccount(account));
        refuseArgument(!isWithin(cents, 1, MOVED_CENTS_LIMIT));
        Account one = world.accounts[account];
        refuseState(!one.isWithBank() || one.cents < cents);
        remember();
        one.payOut(cents);
        one.wake();
        return one.cents;
    }

    public int address(int account, int land) throws NoSuchElementException {
        refuseNoSuch(!world.hasAccount(account) || !world.rules.isLandOrNone(land));
        remember();
        Account one = world.accounts[account];
        int before = one.address;
        one.address = land;
        return before;
    }

    public int close(int account) throws NoSuchElementException, IllegalStateException {
        refuseNoSuch(!world.hasAccount(account));
        Account one = world.accounts[account];
        refuseState(!one.isWithBank());
        remember();
        int paid = one.cents;
        one.payOut(paid);
        one.state = CLOSED;
        return paid;
    }

    public int months(int n) throws IllegalArgumentException, IllegalStateException {
        refuseArgument(!isWithin(n, 1, MONTHS_A_CALL));
        refuseState(world.month + n > MONTH_LIMIT);
        remember();
        int handed = 0;
        for (int i = 0; i < n; i++) {
            handed += world.goMonth();
        }
        return handed;
    }

    public long claim(int account) throws NoSuchElementException, IllegalStateException {
        refuseNoSuch(!world.hasAccount(account));
        Account one = world.accounts[account];
        refuseState(!one.isClaimable());
        remember();
        return world.giveBack(one);
    }

    public int pass(int account) throws NoSuchElementException, IllegalStateException {
        refuseNoSuch(!world.hasAccount(account));
        Account one = world.accounts[account];
        int land = world.rules.landOf(one);
        refuseState(one.state != HANDED || !world.rules.isLand(land) || land == one.holder);
        remember();
        world.passOn(one, land);
        return land;
    }

    public int undo() {
        if (pastCount <= 0 || pastCount > past.length) {
            return NONE;
        }
        pastCount--;
        World undone = world;
        world = past[pastCount];
        past[pastCount] = undone;
        return pastCount;
    }

    public int told(int what) throws IllegalArgumentException {
        refuseArgument(!isWithin(what, 0, 9));
        switch (what) {
            case 0:
                return world.rules.landCount;
            case 1:
                return world.accountCount;
            case 2:
                return world.month;
            case 3:
                return world.rules.wait;
            case 4:
                return world.rules.letterCents;
            case 5:
                return world.rules.home;
            case 6:
                return world.rowCount;
            case 7:
                return world.lettersSent();
            case 8:
                return tapeLength;
            default:
                return pastCount;
        }
    }

    public int land(int land, int what) throws NoSuchElementException, IllegalArgumentException {
        refuseNoSuch(!world.rules.isLand(land));
        refuseArgument(!isWithin(what, 0, 5));
        Land one = world.rules.lands[land];
        switch (what) {
            case 0:
                return one.month;
            case 1:
                return one.least;
            case 2:
                return one.rate;
            case 3:
                return one.years;
            case 4:
                return world.rules.kindsOf(land);
            default:
                return world.accountsHeldBy(land);
        }
    }

    public long purse(int land, int what) throws NoSuchElementException, IllegalArgumentException {
        refuseNoSuch(!world.rules.isLand(land));
        refuseArgument(!isWithin(what, 0, 3));
        switch (what) {
            case 0:
                return world.centsHeldBy(land);
            case 1:
                return world.interestPaid[land];
            case 2:
                return world.centsInRowsOf(land);
            default:
                return world.passedTo[land];
        }
    }

    public int letter(int land, int i) throws NoSuchElementException {
        refuseNoSuch(!world.rules.isLand(land));
        Land one = world.rules.lands[land];
        refuseNoSuch(!one.hasLetter(i));
        return one.name[i];
    }

    public int pays(int kind) throws IllegalArgumentException {
        refuseArgument(!isWithin(kind, 0, KINDS - 1));
        return world.rules.rateOf(kind);
    }

    public int account(int account, int what) throws NoSuchElementException, IllegalArgumentException {
        refuseNoSuch(!world.hasAccount(account));
        refuseArgument(!isWithin(what, 0, 10));
        Account one = world.accounts[account];
        switch (what) {
            case 0:
                return one.kind;
            case 1:
                return one.address;
            case 2:
                return one.birth;
            case 3:
                return one.cents;
            case 4:
                return one.state;
            case 5:
                return one.age;
            case 6:
                return one.since;
            case 7:
                return one.letterCount;
            case 8:
                return world.landNowOf(one);
            case 9:
                return one.letterMonth;
            default:
                return one.nameless ? 1 : 0;
        }
    }

    public int sleep(int account) throws NoSuchElementException {
        refuseNoSuch(!world.hasAccount(account));
        Account one = world.accounts[account];
        int land = world.rules.landOf(one);
        return one.isWithBank() && land != NONE ? world.rules.sleepOf(one, land) : NONE;
    }

    public int soon(int account) throws NoSuchElementException {
        refuseNoSuch(!world.hasAccount(account));
        return forecast.monthsUntilHanded(world, world.accounts[account]);
    }

    public long worth(int account, int n) throws NoSuchElementException, IllegalArgumentException {
        refuseNoSuch(!world.hasAccount(account));
        refuseArgument(!isWithin(n, 0, MONTHS_LOOKED_AHEAD));
        Account one = world.accounts[account];
        return one.isClaimable() ? one.cents + world.rules.interestOf(one, world.month + n) : NONE;
    }

    public int row(int k, int what) throws NoSuchElementException, IllegalArgumentException {
        refuseNoSuch(!world.hasRow(k));
        refuseArgument(!isWithin(what, 0, ROW_CELLS - 1));
        return world.book[k][what];
    }

    public long ahead(int land, int n) throws NoSuchElementException, IllegalArgumentException {
        refuseNoSuch(!world.rules.isLandOrNone(land));
        refuseArgument(!isWithin(n, 1, MONTHS_A_CALL));
        return forecast.centsHandedTo(world, land, n);
    }

    public int letters(int n) throws IllegalArgumentException {
        refuseArgument(!isWithin(n, 1, MONTHS_A_CALL));
        return forecast.lettersSent(world, n);
    }

    public long rescue(int k, int n, int what) throws IllegalArgumentException {
        refuseArgument(!isWithin(k, 1, 3) || !isWithin(n, 1, MONTHS_A_CALL) || !isWithin(what, 0, 1));
        forecast.findRescue(world, k, n);
        return what == 0 ? forecast.rescueSet : forecast.rescueCents;
    }

    public long books(int what) throws IllegalArgumentException {
        refuseArgument(!isWithin(what, 0, 6));
        return world.inBooks(what);
    }

    public long print() {
        long sum = 0;
        for (int i = 0; i < world.accountCount && i < ACCOUNT_LIMIT; i++) {
            Account one = world.accounts[i];
            sum = 31 * sum + one.cents;
            sum = 31 * sum + one.state;
            sum = 31 * sum + one.since;
        }
        return sum;
    }

    public int status(int what) {
        switch (what) {
            case 0:
                return refusedAsNoSuch;
            case 1:
                return refusedByArgument;
            case 2:
                return refusedByState;
            default:
                return NONE;
        }
    }

    private void refuseNoSuch(boolean refused) {
        if (refused) {
            refusedAsNoSuch++;
            throw new NoSuchElementException("no such land, account, row or letter");
        }
    }

    private void refuseArgument(boolean refused) {
        if (refused) {
            refusedByArgument++;
            throw new IllegalArgumentException("a number that is none such");
        }
    }

    private void refuseState(boolean refused) {
        if (refused) {
            refusedByState++;
            throw new IllegalStateException("not as things stand");
        }
    }

    private static boolean isWithin(int number, int least, int most) {
        return number >= least && number <= most;
    }

    private void putOnTape(int number) {
        for (int shift = 24; shift >= 0 && tapeLength < TAPE_LIMIT; shift -= 8) {
            reader.tape[tapeLength] = (number >>> shift) & 255;
            tapeLength++;
        }
    }

    /** Keeps the world as it is ahead of an act; of more than eight the oldest is lost for good. */
    private void remember() {
        if (pastCount >= past.length) {
            World oldest = past[0];
            for (int i = 1; i < past.length; i++) {
                past[i - 1] = past[i];
            }
            past[past.length - 1] = oldest;
            pastCount = past.length - 1;
        }
        past[pastCount].copyFrom(world);
        pastCount++;
    }

    /** The words that the language of laws tells; none of them can be the name of a land. */
    private enum Word {
        LAND("land", NONE),
        SLEEP("sleep", NONE),
        PAYS("pays", NONE),
        WAIT("wait", NONE),
        LETTER("letter", NONE),
        HOME("home", NONE),
        ORDER("order", NONE),
        ADDRESS("address", NONE),
        BIRTH("birth", NONE),
        CENTS("cents", NONE),
        AGE("age", NONE),
        SINCE("since", NONE),
        LETTERS("letters", NONE),
        MIN("min", NONE),
        IF("if", NONE),
        LESS("less", NONE),
        THEN("then", NONE),
        ELSE("else", NONE),
        SAVINGS("savings", 0),
        WAGES("wages", 1),
        SHARES("shares", 2),
        CHEQUE("cheque", 3),
        BOX("box", 4);

        private static final Word[] ALL = values();

        final String letters;
        /** The number of the kind that the word names, or NONE. */
        final int kind;

        Word(String letters, int kind) {
            this.letters = letters;
            this.kind = kind;
        }

        /** The word that stands from one place up to another, or null, if it is none of these. */
        static Word of(int[] bytes, int from, int to) {
            for (int i = 0; i < ALL.length; i++) {
                if (ALL[i].stands(bytes, from, to)) {
                    return ALL[i];
                }
            }
            return null;
        }

        private boolean stands(int[] bytes, int from, int to) {
            if (to - from != letters.length() || from < 0 || to > bytes.length) {
                return false;
            }
            for (int i = 0; i < letters.length(); i++) {
                if (bytes[from + i] != letters.charAt(i)) {
                    return false;
                }
            }
            return true;
        }
    }

    /** What a text tells of one land. */
    private static final class Land {
        static final int NAME_LIMIT = 6;

        final int[] name = new int[NAME_LIMIT];
        int nameLength;
        int month;
        int least;
        int rate;
        int years;

        void call(int[] bytes, int from, int to) {
            nameLength = 0;
            for (int i = from; i >= 0 && i < to && i < bytes.length && nameLength < NAME_LIMIT; i++) {
                name[nameLength] = bytes[i];
                nameLength++;
            }
        }

        boolean hasLetter(int i) {
            return i >= 0 && i < nameLength && i < NAME_LIMIT;
        }

        boolean isCalled(int[] bytes, int from, int to) {
            if (to - from != nameLength || from < 0 || to > bytes.length) {
                return false;
            }
            for (int i = 0; i < nameLength && i < NAME_LIMIT; i++) {
                if (bytes[from + i] != name[i]) {
                    return false;
                }
            }
            return true;
        }

        void copyFrom(Land other) {
            System.arraycopy(other.name, 0, name, 0, NAME_LIMIT);
            nameLength = other.nameLength;
            month = other.month;
            least = other.least;
            rate = other.rate;
            years = other.years;
        }
    }

    /**
     * All that a text tells. A law's expression is kept as code for a stack: a number of the
     * text is itself, the rest are the negative numbers below.
     */
    private static final class Rules {
        static final int PUSH_CENTS = -1;
        static final int PUSH_AGE = -2;
        static final int PUSH_SINCE = -3;
        static final int PUSH_LETTERS = -4;
        static final int ADD = -5;
        static final int SUBTRACT = -6;
        static final int MULTIPLY = -7;
        static final int DIVIDE = -8;
        static final int LEAST = -9;
        static final int CHOOSE = -10;

        static final int BY_ADDRESS = 0;
        static final int BY_BIRTH = 1;
        static final int BY_HOME = 2;
        static final int ORDER_LIMIT = 3;

        static final int DEFAULT_WAIT = 3;
        static final int SLEEP_LIMIT = 600;
        static final long RESULT_LIMIT = 1_000_000_000_000L;
        /** Three levels of five waiting values and some more: no text can need so many. */
        static final int STACK_LIMIT = 32;

        final Land[] lands = new Land[LAND_LIMIT];
        int landCount;
        final int[] paid = new int[KINDS];
        int wait;
        int letterCents;
        int home;
        final int[] order = new int[ORDER_LIMIT];
        int orderCount;
        /** Where the code of a law begins and ends, by kind and land; NONE without a law. */
        final int[] lawStart = new int[KINDS * LAND_LIMIT];
        final int[] lawEnd = new int[KINDS * LAND_LIMIT];
        final int[] code = new int[TAPE_LIMIT];
        int codeLength;
        private final long[] stack = new long[STACK_LIMIT];

        Rules() {
            for (int i = 0; i < LAND_LIMIT; i++) {
                lands[i] = new Land();
            }
            clear();
            tellTheUntold();
        }

        /** Nothing is told: NONE stands for what a text may leave untold. */
        void clear() {
            landCount = 0;
            wait = NONE;
            letterCents = NONE;
            home = NONE;
            orderCount = 0;
            codeLength = 0;
            for (int i = 0; i < KINDS; i++) {
                paid[i] = NONE;
            }
            for (int i = 0; i < lawStart.length; i++) {
                lawStart[i] = NONE;
                lawEnd[i] = NONE;
            }
        }

        void tellTheUntold() {
            wait = wait == NONE ? DEFAULT_WAIT : wait;
            letterCents = letterCents == NONE ? 0 : letterCents;
            home = home == NONE && landCount > 0 ? 0 : home;
            if (orderCount == 0) {
                addToOrder(BY_ADDRESS);
                addToOrder(BY_BIRTH);
                addToOrder(BY_HOME);
            }
            for (int i = 0; i < KINDS; i++) {
                paid[i] = paid[i] == NONE ? 0 : paid[i];
            }
        }

        void copyFrom(Rules other) {
            for (int i = 0; i < other.landCount && i < LAND_LIMIT; i++) {
                lands[i].copyFrom(other.lands[i]);
            }
            landCount = other.landCount;
            wait = other.wait;
            letterCents = other.letterCents;
            home = other.home;
            orderCount = other.orderCount;
            codeLength = other.codeLength;
            System.arraycopy(other.paid, 0, paid, 0, KINDS);
            System.arraycopy(other.order, 0, order, 0, ORDER_LIMIT);
            System.arraycopy(other.lawStart, 0, lawStart, 0, lawStart.length);
            System.arraycopy(other.lawEnd, 0, lawEnd, 0, lawEnd.length);
            System.arraycopy(other.code, 0, code, 0, Math.min(codeLength, TAPE_LIMIT));
        }

        boolean isLand(int land) {
            return land >= 0 && land < landCount && land < LAND_LIMIT;
        }

        boolean isLandOrNone(int land) {
            return land == NONE || isLand(land);
        }

        int landCalled(int[] bytes, int from, int to) {
            for (int i = 0; i < landCount && i < LAND_LIMIT; i++) {
                if (lands[i].isCalled(bytes, from, to)) {
                    return i;
                }
            }
            return NONE;
        }

        boolean isInOrder(int which) {
            for (int i = 0; i < orderCount && i < ORDER_LIMIT; i++) {
                if (order[i] == which) {
                    return true;
                }
            }
            return false;
        }

        void addToOrder(int which) {
            if (orderCount < ORDER_LIMIT) {
                order[orderCount] = which;
                orderCount++;
            }
        }

        void addCode(int one) {
            if (codeLength < TAPE_LIMIT) {
                code[codeLength] = one;
                codeLength++;
            }
        }

        /** A sign put off may be none: 0. */
        void addSign(int one) {
            if (one != 0) {
                addCode(one);
            }
        }

        /** The law's code is all that was added from a place on. */
        void addLaw(int kind, int land, int start) {
            if (isLand(land) && kind >= 0 && kind < KINDS) {
                lawStart[kind * LAND_LIMIT + land] = start;
                lawEnd[kind * LAND_LIMIT + land] = codeLength;
            }
        }

        /** Whether the land takes the kind: NONE is no land and takes none. */
        boolean takes(int kind, int land) {
            return isLand(land) && kind >= 0 && kind < KINDS && lawStart[kind * LAND_LIMIT + land] != NONE;
        }

        /** What a kind pays; nothing, if there is no such kind. */
        int rateOf(int kind) {
            return kind >= 0 && kind < KINDS ? paid[kind] : 0;
        }

        int kindsOf(int land) {
            int kinds = 0;
            for (int kind = 0; kind < KINDS; kind++) {
                if (takes(kind, land)) {
                    kinds |= 1 << kind;
                }
            }
            return kinds;
        }

        int landOf(Account account) {
            for (int i = 0; i < orderCount && i < ORDER_LIMIT; i++) {
                int land = home;
                if (order[i] == BY_ADDRESS) {
                    land = account.address;
                } else if (order[i] == BY_BIRTH) {
                    land = account.birth;
                }
                if (takes(account.kind, land)) {
                    return land;
                }
            }
            return NONE;
        }

        /** The account's sleep by the law of its kind and this land, which takes the kind. */
        int sleepOf(Account account, int land) {
            if (!takes(account.kind, land)) {
                return SLEEP_LIMIT;
            }
            int law = account.kind * LAND_LIMIT + land;
            int top = 0;
            for (int i = lawStart[law]; i < lawEnd[law] && i < TAPE_LIMIT; i++) {
                int base = top - operandsOf(code[i]);
                if (base < 0 || base + 4 > STACK_LIMIT) {
                    return SLEEP_LIMIT;
                }
                stack[base] = code[i] >= 0 ? code[i] : result(code[i], base, account);
                top = base + 1;
            }
            long sleep = top > 0 ? stack[top - 1] : 0;
            return (int) Math.max(0, Math.min(SLEEP_LIMIT, sleep));
        }

        private static int operandsOf(int one) {
            if (one == CHOOSE) {
                return 4;
            }
            return one <= ADD ? 2 : 0;
        }

        /** Four cells of the stack from the base on are there. */
        private long result(int one, int base, Account account) {
            switch (one) {
                case PUSH_CENTS:
                    return account.cents;
                case PUSH_AGE:
                    return account.age;
                case PUSH_SINCE:
                    return account.since;
                case PUSH_LETTERS:
                    return account.letterCount;
                case ADD:
                    return bounded(stack[base] + stack[base + 1]);
                case SUBTRACT:
                    return bounded(stack[base] - stack[base + 1]);
                case MULTIPLY:
                    return product(stack[base], stack[base + 1]);
                case DIVIDE:
                    return quotient(stack[base], stack[base + 1]);
                case LEAST:
                    return Math.min(stack[base], stack[base + 1]);
                default:
                    return stack[base] < stack[base + 1] ? stack[base + 2] : stack[base + 3];
            }
        }

        private static long bounded(long number) {
            return Math.max(-RESULT_LIMIT, Math.min(RESULT_LIMIT, number));
        }

        /** Asks for the bound by a division first: the product of two bounded numbers may not fit a long. */
        private static long product(long a, long b) {
            if (a == 0 || b == 0) {
                return 0;
            }
            if (Math.abs(a) > RESULT_LIMIT / Math.abs(b)) {
                return (a < 0) == (b < 0) ? RESULT_LIMIT : -RESULT_LIMIT;
            }
            return a * b;
        }

        private static long quotient(long a, long b) {
            return b == 0 ? 0 : Math.floorDiv(a, b);
        }

        /** What the land that holds the account's cents pays on them, if they are claimed in a month. */
        long interestOf(Account account, int month) {
            if (!isLand(account.holder)) {
                return 0;
            }
            Land land = lands[account.holder];
            long held = Math.min(month - account.handedMonth, 12 * land.years);
            return (long) account.cents * land.rate * held / RATE_PARTS;
        }
    }

    /**
     * Reads a text into rules, up to its first fault. Every fault stands at the token in hand: a
     * token is stepped over only when it has passed. So a reading that stops without telling why
     * has met what cannot stand there.
     */
    private static final class Reader {
        static final int CANNOT_STAND = 1;
        static final int WRONG_NUMBER = 2;
        static final int WRONG_NAME = 3;
        static final int SIXTH_LAND = 4;
        static final int FOURTH_LEVEL = 5;
        static final int SECOND_LAW = 6;
        static final int NO_LAND = 7;

        static final int DEPTH_LIMIT = 3;
        static final int NUMBER_LIMIT = 999_999;

        /** Sorts of tokens; a byte that begins neither word nor number is a sort by itself. */
        static final int A_WORD = 256;
        static final int A_NUMBER = 257;
        static final int THE_END = 258;

        final int[] tape = new int[TAPE_LIMIT];
        /** What the latest text tells; it is whole only if there was no fault. */
        final Rules rules = new Rules();
        private final int[] sorts = new int[TAPE_LIMIT + 1];
        private final int[] starts = new int[TAPE_LIMIT + 1];
        private final int[] ends = new int[TAPE_LIMIT + 1];
        /** The word that a token is; null, if it is none of the language's. */
        private final Word[] words = new Word[TAPE_LIMIT + 1];
        private int at;
        private int number;
        private int fault;
        int place;

        /** Reads the first n bytes of the tape. Answers the fault, whose place is kept, or 0. */
        int read(int n) {
            at = 0;
            fault = 0;
            rules.clear();
            scan(Math.max(0, Math.min(n, TAPE_LIMIT)));
            boolean read = true;
            for (int lines = 0; lines <= TAPE_LIMIT && read && sorts[at] != THE_END; lines++) {
                read = readLine() && takeSign(';');
            }
            if (!read && fault == 0) {
                fail(CANNOT_STAND);
            }
            if (fault == 0 && rules.landCount == 0) {
                fail(NO_LAND);
            }
            rules.tellTheUntold();
            return fault;
        }

        /** Lays the first bytes out as tokens; behind them stands the end, at the length. */
        private void scan(int length) {
            int count = 0;
            for (int i = 0; i < length; i++) {
                int sort = sortOf(tape[i]);
                boolean goesOn = (sort == A_WORD || sort == A_NUMBER)
                        && count > 0 && sorts[count - 1] == sort && ends[count - 1] == i;
                if (goesOn) {
                    ends[count - 1] = i + 1;
                } else if (sort != ' ') {
                    sorts[count] = sort;
                    starts[count] = i;
                    ends[count] = i + 1;
                    count++;
                }
            }
            sorts[count] = THE_END;
            starts[count] = length;
            ends[count] = length;
            for (int i = 0; i <= count; i++) {
                words[i] = Word.of(tape, starts[i], ends[i]);
            }
        }

        private static int sortOf(int first) {
            if (first >= 'a' && first <= 'z') {
                return A_WORD;
            }
            return first >= '0' && first <= '9' ? A_NUMBER : first;
        }

        private boolean fail(int what) {
            fault = what;
            place = starts[at];
            return false;
        }

        /** Behind the last token there is the end, behind which there is none. */
        private void step() {
            if (at < TAPE_LIMIT) {
                at++;
            }
        }

        private boolean takeSign(int sign) {
            if (at >= TAPE_LIMIT || sorts[at] != sign) {
                return false;
            }
            at++;
            return true;
        }

        private boolean takeWord(Word wanted) {
            if (at >= TAPE_LIMIT || words[at] != wanted) {
                return false;
            }
            at++;
            return true;
        }

        /** The digits may be many: above the highest number of the language all are alike. */
        private boolean takeNumber(int least, int most) {
            if (sorts[at] != A_NUMBER) {
                return false;
            }
            number = 0;
            for (int i = starts[at]; i < ends[at] && i < tape.length; i++) {
                number = Math.min(NUMBER_LIMIT + 1, 10 * number + tape[i] - '0');
            }
            if (number < least || number > most) {
                return fail(WRONG_NUMBER);
            }
            step();
            return true;
        }

        private boolean readLine() {
            if (words[at] == Word.LAND) {
                return readLand();
            }
            if (takeWord(Word.SLEEP)) {
                return readLaw();
            }
            if (takeWord(Word.PAYS)) {
                return readPays();
            }
            if (rules.wait == NONE && takeWord(Word.WAIT)) {
                return readWait();
            }
            if (rules.letterCents == NONE && takeWord(Word.LETTER)) {
                return readLetter();
            }
            if (rules.home == NONE && takeWord(Word.HOME)) {
                return readHome();
            }
            return rules.orderCount == 0 && takeWord(Word.ORDER) && readOrder();
        }

        private boolean readLand() {
            if (rules.landCount >= LAND_LIMIT) {
                return fail(SIXTH_LAND);
            }
            step();
            if (!isName()) {
                return false;
            }
            if (rules.landCalled(tape, starts[at], ends[at]) != NONE) {
                return fail(WRONG_NAME);
            }
            Land land = rules.lands[rules.landCount];
            land.call(tape, starts[at], ends[at]);
            step();
            if (!takeNumber(0, 11)) {
                return false;
            }
            land.month = number;
            if (!takeNumber(0, 9_999)) {
                return false;
            }
            land.least = number;
            if (!takeNumber(0, 999)) {
                return false;
            }
            land.rate = number;
            if (!takeNumber(1, 50)) {
                return false;
            }
            land.years = number;
            rules.landCount++;
            return true;
        }

        private boolean readLaw() {
            int kind = kindInHand();
            if (kind == NONE) {
                return false;
            }
            step();
            int land = toldLandInHand();
            if (land == NONE) {
                return false;
            }
            if (rules.takes(kind, land)) {
                return fail(SECOND_LAW);
            }
            step();
            int start = rules.codeLength;
            if (!readSum(0)) {
                return false;
            }
            rules.addLaw(kind, land, start);
            return true;
        }

        private boolean readPays() {
            int kind = kindInHand();
            if (kind == NONE) {
                return false;
            }
            if (rules.paid[kind] != NONE) {
                return fail(SECOND_LAW);
            }
            step();
            if (!takeNumber(0, 999)) {
                return false;
            }
            rules.paid[kind] = number;
            return true;
        }

        private boolean readWait() {
            if (!takeNumber(0, 60)) {
                return false;
            }
            rules.wait = number;
            return true;
        }

        private boolean readLetter() {
            if (!takeNumber(0, 999)) {
                return false;
            }
            rules.letterCents = number;
            return true;
        }

        private boolean readHome() {
            int land = toldLandInHand();
            if (land == NONE) {
                return false;
            }
            rules.home = land;
            step();
            return true;
        }

        private boolean readOrder() {
            for (int i = 0; i <= TAPE_LIMIT && (i == 0 || sorts[at] == A_WORD); i++) {
                int which = orderInHand();
                if (which == NONE || rules.isInOrder(which)) {
                    return false;
                }
                rules.addToOrder(which);
                step();
            }
            return true;
        }

        private int orderInHand() {
            if (words[at] == Word.ADDRESS) {
                return Rules.BY_ADDRESS;
            }
            if (words[at] == Word.BIRTH) {
                return Rules.BY_BIRTH;
            }
            return words[at] == Word.HOME ? Rules.BY_HOME : NONE;
        }

        private int kindInHand() {
            Word word = words[at];
            return word != null && word.kind >= 0 && word.kind < KINDS ? word.kind : NONE;
        }

        private boolean isName() {
            return sorts[at] == A_WORD && words[at] == null && ends[at] - starts[at] <= Land.NAME_LIMIT;
        }

        private int toldLandInHand() {
            if (!isName()) {
                return NONE;
            }
            int land = rules.landCalled(tape, starts[at], ends[at]);
            if (land == NONE) {
                fail(WRONG_NAME);
            }
            return land;
        }

        /**
         * E, with its products; the depth is how many brackets and ifs stand open around it. A
         * "+" or "-" is put off until its right side has taken the products that bind closer.
         */
        private boolean readSum(int depth) {
            int putOff = 0;
            boolean read = readFactor(depth);
            for (int i = 0; i <= TAPE_LIMIT && read && signInHand() != 0; i++) {
                int sign = signInHand();
                step();
                if (sign == Rules.ADD || sign == Rules.SUBTRACT) {
                    rules.addSign(putOff);
                    putOff = sign;
                    read = readFactor(depth);
                } else {
                    read = readFactor(depth);
                    rules.addSign(sign);
                }
            }
            rules.addSign(putOff);
            return read;
        }

        /** The code of the sign in hand that joins two factors, or 0. */
        private int signInHand() {
            switch (sorts[at]) {
                case '+':
                    return Rules.ADD;
                case '-':
                    return Rules.SUBTRACT;
                case '*':
                    return Rules.MULTIPLY;
                case '/':
                    return Rules.DIVIDE;
                default:
                    return 0;
            }
        }

        /** F. */
        private boolean readFactor(int depth) {
            if (words[at] == Word.IF) {
                return readIf(depth);
            }
            if (takeWord(Word.MIN)) {
                return readBracket(depth, true);
            }
            if (sorts[at] == '(') {
                return readBracket(depth, false);
            }
            int push = pushInHand();
            if (push != 0) {
                rules.addCode(push);
                step();
                return true;
            }
            if (!takeNumber(0, NUMBER_LIMIT)) {
                return false;
            }
            rules.addCode(number);
            return true;
        }

        private boolean readIf(int depth) {
            if (depth >= DEPTH_LIMIT) {
                return fail(FOURTH_LEVEL);
            }
            step();
            if (!readFactor(depth + 1) || !takeWord(Word.LESS) || !readFactor(depth + 1)) {
                return false;
            }
            if (!takeWord(Word.THEN) || !readFactor(depth + 1)) {
                return false;
            }
            if (!takeWord(Word.ELSE) || !readFactor(depth + 1)) {
                return false;
            }
            rules.addCode(Rules.CHOOSE);
            return true;
        }

        /** A bracket round one E, or round the two of a min. */
        private boolean readBracket(int depth, boolean ofMin) {
            if (sorts[at] != '(') {
                return false;
            }
            if (depth >= DEPTH_LIMIT) {
                return fail(FOURTH_LEVEL);
            }
            step();
            if (!readSum(depth + 1)) {
                return false;
            }
            if (ofMin) {
                if (!takeSign(',') || !readSum(depth + 1)) {
                    return false;
                }
                rules.addCode(Rules.LEAST);
            }
            return takeSign(')');
        }

        /** The code that pushes what the word in hand means in an expression, or 0. */
        private int pushInHand() {
            if (words[at] == Word.CENTS) {
                return Rules.PUSH_CENTS;
            }
            if (words[at] == Word.AGE) {
                return Rules.PUSH_AGE;
            }
            if (words[at] == Word.SINCE) {
                return Rules.PUSH_SINCE;
            }
            return words[at] == Word.LETTERS ? Rules.PUSH_LETTERS : 0;
        }
    }

    private static final class Account {
        int kind;
        int address;
        int birth;
        int cents;
        int state;
        int age;
        int since;
        int letterCount;
        int letterMonth;
        int holder;
        int handedMonth;
        boolean nameless;
        long broughtIn;
        long credited;
        long paidOut;
        long letterCents;
        long claimed;

        void start(int itsKind, int itsAddress, int itsBirth, int itsCents) {
            kind = itsKind;
            address = itsAddress;
            birth = itsBirth;
            cents = itsCents;
            state = AWAKE;
            age = 0;
            since = 0;
            letterCount = 0;
            letterMonth = NONE;
            holder = NONE;
            handedMonth = NONE;
            nameless = false;
            broughtIn = itsCents;
            credited = 0;
            paidOut = 0;
            letterCents = 0;
            claimed = 0;
        }

        void copyFrom(Account other) {
            kind = other.kind;
            address = other.address;
            birth = other.birth;
            cents = other.cents;
            state = other.state;
            age = other.age;
            since = other.since;
            letterCount = other.letterCount;
            letterMonth = other.letterMonth;
            holder = other.holder;
            handedMonth = other.handedMonth;
            nameless = other.nameless;
            broughtIn = other.broughtIn;
            credited = other.credited;
            paidOut = other.paidOut;
            letterCents = other.letterCents;
            claimed = other.claimed;
        }

        boolean isWithBank() {
            return state == AWAKE || state == WRITTEN;
        }

        boolean isClaimable() {
            return state == HANDED && !nameless;
        }

        boolean isHeldBy(int land) {
            return state == HANDED && holder == land;
        }

        void wake() {
            since = 0;
            state = AWAKE;
        }

        void bringIn(int more) {
            cents += more;
            broughtIn += more;
        }

        void payOut(int less) {
            cents -= less;
            paidOut += less;
        }

        /** One month of an account that is with the bank; next is the month that comes by it. */
        void goMonth(Rules rules, int next) {
            credit(rules.rateOf(kind));
            age++;
            since++;
            int land = rules.landOf(this);
            if (!rules.isLand(land)) {
                return;
            }
            if (state == AWAKE) {
                if (since >= rules.sleepOf(this, land)) {
                    receiveLetter(rules.letterCents, next);
                }
            } else if (next - letterMonth >= rules.wait && next % 12 == rules.lands[land].month) {
                handOver(land, rules.lands[land].least, next);
            }
        }

        private void credit(int rate) {
            long interest = (long) cents * rate / RATE_PARTS;
            int more = (int) Math.min(interest, CENTS_LIMIT - cents);
            cents += more;
            credited += more;
        }

        private void receiveLetter(int price, int month) {
            int paid = Math.min(price, cents);
            cents -= paid;
            letterCents += paid;
            letterCount++;
            letterMonth = month;
            state = WRITTEN;
        }

        private void handOver(int land, int least, int month) {
            state = HANDED;
            holder = land;
            handedMonth = month;
            nameless = cents < least;
        }

        /** Answers the cents that come back. */
        int giveBack() {
            int back = cents;
            claimed += back;
            cents = 0;
            state = CLAIMED;
            return back;
        }

        /** Its part of what books() tells, by the same numbers. */
        long inBooks(int what) {
            switch (what) {
                case 0:
                    return broughtIn;
                case 1:
                    return credited;
                case 2:
                    return paidOut;
                case 3:
                    return letterCents;
                case 4:
                    return isWithBank() ? cents : 0;
                case 5:
                    return state == HANDED ? cents : 0;
                default:
                    return claimed;
            }
        }
    }

    /** All that undo takes back: what is told, the accounts, the book and the sums. */
    private static final class World {
        final Rules rules = new Rules();
        final Account[] accounts = new Account[ACCOUNT_LIMIT];
        int accountCount;
        int month;
        /** An account is handed over once at most, so the book has a row for each. */
        final int[][] book = new int[ACCOUNT_LIMIT][ROW_CELLS];
        int rowCount;
        final long[] interestPaid = new long[LAND_LIMIT];
        final long[] passedTo = new long[LAND_LIMIT];

        World() {
            for (int i = 0; i < ACCOUNT_LIMIT; i++) {
                accounts[i] = new Account();
            }
        }

        void begin(Rules told) {
            rules.copyFrom(told);
            accountCount = 0;
            month = 0;
            rowCount = 0;
            for (int i = 0; i < LAND_LIMIT; i++) {
                interestPaid[i] = 0;
                passedTo[i] = 0;
            }
        }

        void copyFrom(World other) {
            rules.copyFrom(other.rules);
            for (int i = 0; i < other.accountCount && i < ACCOUNT_LIMIT; i++) {
                accounts[i].copyFrom(other.accounts[i]);
            }
            for (int i = 0; i < other.rowCount && i < ACCOUNT_LIMIT; i++) {
                System.arraycopy(other.book[i], 0, book[i], 0, ROW_CELLS);
            }
            accountCount = other.accountCount;
            month = other.month;
            rowCount = other.rowCount;
            System.arraycopy(other.interestPaid, 0, interestPaid, 0, LAND_LIMIT);
            System.arraycopy(other.passedTo, 0, passedTo, 0, LAND_LIMIT);
        }

        boolean hasAccount(int account) {
            return account >= 0 && account < accountCount && account < ACCOUNT_LIMIT;
        }

        boolean hasRow(int k) {
            return k >= 0 && k < rowCount && k < ACCOUNT_LIMIT;
        }

        /** Answers how many accounts were handed over. */
        int goMonth() {
            int handed = 0;
            month++;
            for (int i = 0; i < accountCount && i < ACCOUNT_LIMIT; i++) {
                Account one = accounts[i];
                if (one.isWithBank()) {
                    one.goMonth(rules, month);
                    if (one.state == HANDED) {
                        writeRow(i, one);
                        handed++;
                    }
                }
            }
            return handed;
        }

        private void writeRow(int account, Account one) {
            if (rowCount < ACCOUNT_LIMIT) {
                int[] row = book[rowCount];
                row[0] = one.handedMonth;
                row[1] = account;
                row[2] = one.holder;
                row[3] = one.cents;
                row[4] = one.nameless ? 1 : 0;
                rowCount++;
            }
        }

        long giveBack(Account one) {
            long interest = rules.interestOf(one, month);
            if (rules.isLand(one.holder)) {
                interestPaid[one.holder] += interest;
            }
            return one.giveBack() + interest;
        }

        void passOn(Account one, int land) {
            if (rules.isLand(land)) {
                one.holder = land;
                passedTo[land] += one.cents;
            }
        }

        int landNowOf(Account one) {
            if (one.isWithBank()) {
                return rules.landOf(one);
            }
            return one.state == HANDED ? one.holder : NONE;
        }

        int accountsHeldBy(int land) {
            int held = 0;
            for (int i = 0; i < accountCount && i < ACCOUNT_LIMIT; i++) {
                if (accounts[i].isHeldBy(land)) {
                    held |= 1 << i;
                }
            }
            return held;
        }

        long centsHeldBy(int land) {
            long sum = 0;
            for (int i = 0; i < accountCount && i < ACCOUNT_LIMIT; i++) {
                sum += accounts[i].isHeldBy(land) ? accounts[i].cents : 0;
            }
            return sum;
        }

        long centsInRowsOf(int land) {
            long sum = 0;
            for (int i = 0; i < rowCount && i < ACCOUNT_LIMIT; i++) {
                sum += book[i][2] == land ? book[i][3] : 0;
            }
            return sum;
        }

        int lettersSent() {
            int sum = 0;
            for (int i = 0; i < accountCount && i < ACCOUNT_LIMIT; i++) {
                sum += accounts[i].letterCount;
            }
            return sum;
        }

        long inBooks(int what) {
            long sum = 0;
            for (int i = 0; i < accountCount && i < ACCOUNT_LIMIT; i++) {
                sum += accounts[i].inBooks(what);
            }
            return sum;
        }
    }

    /** What comes if nothing else is done: tried on a copy of an account, so the world stays as it is. */
    private static final class Forecast {
        private final Account probe = new Account();
        /** By how many cents a contact now changes what is handed over, of account by account. */
        private final long[] change = new long[ACCOUNT_LIMIT];
        int rescueSet;
        long rescueCents;

        int monthsUntilHanded(World world, Account account) {
            probe.copyFrom(account);
            return runProbe(world, MONTHS_LOOKED_AHEAD);
        }

        /** NONE is all lands. */
        long centsHandedTo(World world, int land, int n) {
            long sum = 0;
            for (int i = 0; i < world.accountCount && i < ACCOUNT_LIMIT; i++) {
                probe.copyFrom(world.accounts[i]);
                if (runProbe(world, n) != NONE && (land == NONE || probe.holder == land)) {
                    sum += probe.cents;
                }
            }
            return sum;
        }

        int lettersSent(World world, int n) {
            int sum = 0;
            for (int i = 0; i < world.accountCount && i < ACCOUNT_LIMIT; i++) {
                probe.copyFrom(world.accounts[i]);
                runProbe(world, n);
                sum += probe.letterCount - world.accounts[i].letterCount;
            }
            return sum;
        }

        /** No account's months touch another's, so each is tried by itself, with and without a contact. */
        void findRescue(World world, int k, int n) {
            int candidates = 0;
            long untouched = 0;
            for (int i = 0; i < world.accountCount && i < ACCOUNT_LIMIT; i++) {
                Account one = world.accounts[i];
                if (one.isWithBank()) {
                    candidates |= 1 << i;
                    probe.copyFrom(one);
                    int without = runProbe(world, n) == NONE ? 0 : probe.cents;
                    probe.copyFrom(one);
                    probe.wake();
                    int with = runProbe(world, n) == NONE ? 0 : probe.cents;
                    change[i] = with - without;
                    untouched += without;
                }
            }
            chooseSet(candidates, Math.min(k, Integer.bitCount(candidates)), untouched);
        }

        private void chooseSet(int candidates, int size, long untouched) {
            boolean found = false;
            for (int set = 0; set <= candidates; set++) {
                if ((set & ~candidates) == 0 && Integer.bitCount(set) == size) {
                    long cents = untouched + changeBy(set);
                    if (!found || cents < rescueCents) {
                        found = true;
                        rescueSet = set;
                        rescueCents = cents;
                    }
                }
            }
        }

        private long changeBy(int set) {
            long sum = 0;
            for (int i = 0; i < ACCOUNT_LIMIT; i++) {
                sum += (set >> i & 1) == 1 ? change[i] : 0;
            }
            return sum;
        }

        /** In how many months, of so many at most, the probe is handed over; NONE: in none of them. */
        private int runProbe(World world, int most) {
            if (!probe.isWithBank()) {
                return NONE;
            }
            for (int gone = 1; gone <= most && world.month + gone <= MONTH_LIMIT; gone++) {
                probe.goMonth(world.rules, world.month + gone);
                if (probe.state == HANDED) {
                    return gone;
                }
            }
            return NONE;
        }
    }
}
