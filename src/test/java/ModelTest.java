import java.util.Random;

/** Long runs of calls, each answer held against the model's; the runs are the same every time. */
public final class ModelTest {
    private static final String[] ASKS = {"told", "land", "purse", "letter", "pays", "account", "sleep", "soon", "worth",
        "row", "ahead", "letters", "rescue", "books", "print", "fault"};
    private static final String[] ACTS = {"open", "open", "contact", "deposit", "draw", "address", "address", "close",
        "months", "months", "months", "months", "claim", "pass", "pass", "pass", "undo"};
    private static final int RUNS = 600;
    /** A text takes 31 calls at most, and the counts of refusals three, behind it and at the end. */
    private static final int ROOM_FOR_A_TEXT = 37;
    /** Each sixth run comes near to the last month, 6,000, before all kinds of calls are made. */
    private static final int LATE_RUNS = 6;
    private static final int TEXTS = 6000;

    private final Random dice;
    private final Desk program = new Desk();
    private final Model model = new Model();
    private final int[] refused = new int[3];
    private final int run;
    private int calls;
    private int rescues;

    private ModelTest(int run) {
        this.run = run;
        dice = new Random(7_000 + run);
    }

    public static void main(String[] args) {
        for (int i = 0; i < TEXTS; i++) {
            new ModelTest(i).oneText();
        }
        for (int i = 0; i < RUNS; i++) {
            new ModelTest(i).longRun();
        }
        Bank.end("ModelTest");
    }

    private void oneText() {
        tell(new Texts(dice).next());
        call("fault");
        for (int what = 0; what < 10; what++) {
            call("told", what);
        }
        int lands = told(0);
        for (int land = 0; land < lands; land++) {
            for (int what = 0; what < 5; what++) {
                call("land", land, what);
                call("letter", land, what);
            }
        }
        for (int kind = 0; kind < 5; kind++) {
            call("pays", kind);
            call("open", kind, lands - 1, lands > 0 ? 0 : -1, 1000 * kind);
            call("sleep", kind);
            call("account", kind, 8);
            call("soon", kind);
        }
    }

    private void longRun() {
        tell(new Texts(dice).good());
        if (run % LATE_RUNS == 0) {
            goFar();
        }
        while (program.calls() < Desk.MOST_CALLS - ROOM_FOR_A_TEXT) {
            if (chance(isWornOut() ? 12 : 200)) {
                tell(chance(2) ? new Texts(dice).next() : new Texts(dice).good());
            } else if (chance(150)) {
                call("feed", dice.nextInt(), 0, 0, 0, 0);
                call("text", dice.nextInt(40) - 10);
            } else if (chance(2)) {
                callOf(ACTS[dice.nextInt(ACTS.length)]);
            } else {
                callOf(ASKS[dice.nextInt(ASKS.length)]);
            }
            if (chance(20)) {
                statuses();
            }
        }
        statuses();
    }

    private void goFar() {
        for (int i = 0; i < 10; i++) {
            callOf("open");
        }
        for (int i = 46 + dice.nextInt(5); i > 0; i--) {
            call("months", 120);
            callOf(chance(2) ? "contact" : "address");
        }
    }

    private void statuses() {
        for (int kind = 0; kind < 3; kind++) {
            Bank.same("run " + run + " status(" + kind + ")", program.status(kind), refused[kind]);
        }
    }

    /** What the model tells: the program's calls are counted. */
    private int told(int... a) {
        return (int) model.call(a.length == 1 ? "told" : "account", a);
    }

    private boolean chance(int of) {
        return dice.nextInt(of) == 0;
    }

    private int among(int... numbers) {
        return numbers[dice.nextInt(numbers.length)];
    }

    private int anAccount() {
        int opened = told(1);
        return chance(25) ? among(-1, 12, opened, Integer.MIN_VALUE) : dice.nextInt(opened + (opened == 0 ? 1 : 0));
    }

    /** Mostly one that is handed over, if there is one. */
    private int aHandedAccount() {
        int first = anAccount();
        for (int i = 0; i < told(1) && !chance(25); i++) {
            int account = Math.floorMod(first + i, told(1));
            if (told(account, 4) == 2) {
                return account;
            }
        }
        return first;
    }

    /** No more accounts can be opened, and all are claimed or closed. */
    private boolean isWornOut() {
        int alive = 12 - told(1);
        for (int i = 0; i < told(1); i++) {
            alive += told(i, 4) < 3 ? 1 : 0;
        }
        return alive == 0;
    }

    private int aLand() {
        int lands = told(0);
        return chance(25) ? among(-2, 5, lands, Integer.MAX_VALUE) : dice.nextInt(lands + 1) - 1;
    }

    private int what(int most) {
        return chance(25) ? among(-1, most + 1) : dice.nextInt(most + 1);
    }

    private int cents() {
        return among(0, 1, 119, 499, 500, 1000, 9999, 120_000, 999_999, 1_000_000, 1_000_001, 99_000_000, 99_999_999,
                100_000_000, dice.nextInt(100_000), dice.nextInt(2000), dice.nextInt(100_000_000), -1, 100_000_001);
    }

    private int someMonths(int most) {
        return chance(25) ? among(0, -1, most + 1) : chance(8) ? 1 + dice.nextInt(most) : 1 + dice.nextInt(13);
    }

    private void callOf(String name) {
        switch (name) {
            case "open":
                call(name, chance(30) ? among(-1, 5) : dice.nextInt(5), aLand(), aLand(), cents());
                break;
            case "deposit":
            case "draw":
                call(name, anAccount(), cents());
                break;
            case "address":
                call(name, chance(2) ? anAccount() : aHandedAccount(), aLand());
                break;
            case "months":
                call(name, someMonths(120));
                break;
            case "told":
                call(name, what(9));
                break;
            case "land":
                call(name, aLand(), what(5));
                break;
            case "purse":
                call(name, aLand(), what(3));
                break;
            case "letter":
                call(name, aLand(), what(6));
                break;
            case "pays":
                call(name, what(4));
                break;
            case "account":
                call(name, anAccount(), what(10));
                break;
            case "claim":
            case "pass":
                call(name, aHandedAccount());
                break;
            case "worth":
                call(name, aHandedAccount(), chance(4) ? among(0, 600, 601, -1) : dice.nextInt(601));
                break;
            case "row":
                call(name, dice.nextInt(1 + told(6)) - (chance(20) ? 1 : 0), what(4));
                break;
            case "ahead":
                call(name, aLand(), someMonths(120));
                break;
            case "letters":
                call(name, someMonths(120));
                break;
            case "rescue":
                rescue();
                break;
            case "books":
                call(name, what(6));
                break;
            case "print":
            case "fault":
            case "undo":
                call(name);
                break;
            default:
                call(name, anAccount());
        }
    }

    /** The model is slow at these. */
    private void rescue() {
        rescues++;
        int n = rescues % 4 == 0 ? someMonths(120) : 1 + dice.nextInt(24);
        if (rescues < 12) {
            call("rescue", chance(20) ? among(0, 4, -1) : 1 + dice.nextInt(3), n, what(1));
        }
    }

    private void tell(String text) {
        for (int from = 0; from < text.length(); from += 20) {
            int[] five = new int[5];
            for (int i = 0; i < 20 && from + i < text.length(); i++) {
                five[i / 4] |= text.charAt(from + i) << 24 - i % 4 * 8;
            }
            call("feed", five);
        }
        call("text", text.length());
    }

    private void call(String name, int... a) {
        calls++;
        StringBuilder shown = new StringBuilder("run " + run + " call " + calls + " " + name);
        for (int one : a) {
            shown.append(' ').append(one);
        }
        long want = 0;
        int refusal = Bank.NONE;
        try {
            want = model.call(name, a);
        } catch (Model.Refused e) {
            refusal = e.kind;
            refused[e.kind]++;
        }
        long[] got = new long[1];
        int thrown = Bank.kindOfRefusal(() -> got[0] = onProgram(name, a));
        Bank.same(shown + " throws", thrown, refusal);
        if (thrown == Bank.NONE && refusal == Bank.NONE) {
            Bank.same(shown.toString(), got[0], want);
        }
    }

    private long onProgram(String name, int[] a) {
        switch (name) {
            case "feed":
                return program.feed(a[0], a[1], a[2], a[3], a[4]);
            case "text":
                return program.text(a[0]);
            case "fault":
                return program.fault();
            case "open":
                return program.open(a[0], a[1], a[2], a[3]);
            case "contact":
                return program.contact(a[0]);
            case "deposit":
                return program.deposit(a[0], a[1]);
            case "draw":
                return program.draw(a[0], a[1]);
            case "address":
                return program.address(a[0], a[1]);
            case "close":
                return program.close(a[0]);
            case "months":
                return program.months(a[0]);
            case "claim":
                return program.claim(a[0]);
            case "pass":
                return program.pass(a[0]);
            case "undo":
                return program.undo();
            default:
                return askProgram(name, a);
        }
    }

    private long askProgram(String name, int[] a) {
        switch (name) {
            case "told":
                return program.told(a[0]);
            case "land":
                return program.land(a[0], a[1]);
            case "purse":
                return program.purse(a[0], a[1]);
            case "letter":
                return program.letter(a[0], a[1]);
            case "pays":
                return program.pays(a[0]);
            case "account":
                return program.account(a[0], a[1]);
            case "sleep":
                return program.sleep(a[0]);
            case "soon":
                return program.soon(a[0]);
            case "worth":
                return program.worth(a[0], a[1]);
            case "row":
                return program.row(a[0], a[1]);
            case "ahead":
                return program.ahead(a[0], a[1]);
            case "letters":
                return program.letters(a[0]);
            case "rescue":
                return program.rescue(a[0], a[1], a[2]);
            case "books":
                return program.books(a[0]);
            case "print":
                return program.print();
            default:
                throw new AssertionError(name);
        }
    }

    /** Texts by the grammar, with and without faults. */
    private static final class Texts {
        private static final String[] KINDS = {"savings", "wages", "shares", "cheque", "box"};
        private static final String[] NAMES = {"a", "bb", "lands", "zzzzzz", "ax", "mi"};
        private static final String[] WRONG = {"abcdefg", "land", "box", "less", "min", "letters", "address", "q", "A"};
        private static final String[] PLACES = {"address", "birth", "home"};
        private static final String SIGNS = ";;()+-*/,  0159azifx#" + (char) 0 + (char) 200;
        private final Random dice;
        private StringBuilder text;
        private int lands;
        /** In how many words of a thousand there is a slip. */
        private int slips;

        Texts(Random dice) {
            this.dice = dice;
        }

        String next() {
            slips = dice.nextInt(3) == 0 ? 0 : 12;
            String made = cut(make());
            if (dice.nextInt(4) == 0 && made.length() > 0) {
                int at = dice.nextInt(made.length());
                char sign = SIGNS.charAt(dice.nextInt(SIGNS.length()));
                String behind = made.substring(at + dice.nextInt(2));
                made = made.substring(0, at) + (dice.nextInt(3) == 0 ? "" : sign) + behind;
            }
            if (dice.nextInt(12) == 0 && made.length() > 0) {
                made = made.substring(0, dice.nextInt(made.length()));
            }
            return cut(made);
        }

        String good() {
            slips = 0;
            String made = make();
            while (made.length() > 600) {
                made = made.substring(0, made.lastIndexOf(';', made.length() - 2) + 1);
            }
            return made;
        }

        private static String cut(String made) {
            return made.length() > 600 ? made.substring(0, 600) : made;
        }

        private String make() {
            text = new StringBuilder();
            lands = 0;
            int most = 1 + dice.nextInt(5);
            for (int i = 0; i < most; i++) {
                land();
            }
            if (slip()) {
                land();
            }
            if (dice.nextBoolean()) {
                once();
            }
            boolean[] told = new boolean[25];
            for (int i = 4 + dice.nextInt(9); i > 0; i--) {
                int kind = dice.nextInt(5);
                int land = dice.nextInt(lands);
                if (!told[kind * 5 + Math.min(4, land)] || slip()) {
                    told[kind * 5 + Math.min(4, land)] = true;
                    word("sleep");
                    word(slip() ? wrong() : KINDS[kind]);
                    word(slip() ? wrong() : NAMES[land]);
                    expression(0);
                    sign(";");
                }
            }
            for (int kind = 0; kind < 5; kind++) {
                if (dice.nextInt(3) == 0 || slip()) {
                    pays(kind);
                    if (slip()) {
                        pays(kind);
                    }
                }
            }
            if (slip()) {
                once();
            }
            return text.toString();
        }

        private boolean slip() {
            return dice.nextInt(1000) < slips;
        }

        private String wrong() {
            return WRONG[dice.nextInt(WRONG.length)];
        }

        private void land() {
            word("land");
            word(slip() ? wrong() : NAMES[slip() ? 0 : Math.min(lands, 5)]);
            number(0, 11);
            number(0, dice.nextBoolean() ? 600 : 9999);
            number(0, 999);
            number(1, dice.nextBoolean() ? 3 : 50);
            sign(";");
            lands = Math.min(lands + 1, 6);
        }

        private void pays(int kind) {
            word("pays");
            word(slip() ? wrong() : KINDS[kind]);
            number(0, 999);
            sign(";");
        }

        private void once() {
            if (dice.nextBoolean()) {
                word("wait");
                number(0, dice.nextInt(3) == 0 ? 60 : 8);
                sign(";");
            }
            if (dice.nextBoolean()) {
                word("letter");
                number(0, 999);
                sign(";");
            }
            if (dice.nextBoolean()) {
                word("home");
                word(slip() ? wrong() : NAMES[dice.nextInt(lands)]);
                sign(";");
            }
            if (dice.nextBoolean()) {
                word("order");
                int first = dice.nextInt(3);
                int step = 1 + dice.nextInt(2);
                int count = 1 + dice.nextInt(3) + (slip() ? 1 : 0);
                for (int i = 0; i < count; i++) {
                    word(PLACES[(first + i * step) % 3]);
                }
                sign(";");
            }
        }

        private void expression(int depth) {
            factor(depth);
            for (int more = dice.nextInt(4) - 1; more > 0; more--) {
                sign("+-*/".substring(dice.nextInt(4)).substring(0, 1));
                factor(depth);
            }
        }

        private void factor(int depth) {
            int limit = slips > 0 && dice.nextInt(10) == 0 ? 4 : 3;
            int which = dice.nextInt(depth < limit ? 11 : 8);
            if (which < 4) {
                number(0, which == 0 ? 999_999 : which == 1 ? 40 : 12);
            } else if (which < 8) {
                word(new String[] {"cents", "age", "since", "letters"}[which - 4]);
            } else if (which == 8) {
                sign("(");
                expression(depth + 1);
                sign(")");
            } else if (which == 9) {
                word("min");
                sign("(");
                expression(depth + 1);
                sign(",");
                expression(depth + 1);
                sign(")");
            } else {
                word("if");
                factor(depth + 1);
                word("less");
                factor(depth + 1);
                word("then");
                factor(depth + 1);
                word("else");
                factor(depth + 1);
            }
        }

        private void blanks() {
            while (dice.nextInt(12) == 0) {
                text.append(' ');
            }
        }

        private void word(String word) {
            blanks();
            char last = text.length() == 0 ? ';' : text.charAt(text.length() - 1);
            if (last >= 'a' && last <= 'z') {
                text.append(' ');
            }
            text.append(slip() ? wrong() : word);
        }

        private void number(int least, int most) {
            blanks();
            char last = text.charAt(text.length() - 1);
            if (last >= '0' && last <= '9') {
                text.append(' ');
            }
            if (dice.nextInt(40) == 0) {
                text.append("000");
            }
            if (slip()) {
                text.append(dice.nextBoolean() ? String.valueOf(most + 1) : "12345678901234567890");
            } else {
                text.append(least + dice.nextInt(most - least + 1));
            }
        }

        private void sign(String sign) {
            blanks();
            if (!slip()) {
                text.append(sign);
            }
        }
    }
}
