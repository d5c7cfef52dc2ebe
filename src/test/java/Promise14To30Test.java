/** Promises 14 to 30: each sentence that names a boundary case. */
public final class Promise14To30Test extends TextCase {
    private static final int SAVINGS = 0;
    private static final int WAGES = 1;
    private static final int BOX = 4;
    private static final int MOST = 100_000_000;

    public static void main(String[] args) {
        undoAnswers();
        undoOfAText();
        undoOfMonths();
        toldWhats();
        toldHome();
        toldCounts();
        landWhats();
        landBits();
        purseWhats();
        purseCents();
        letters();
        paysOfKinds();
        accountWhats();
        accountCents();
        accountLand();
        accountLatestLetter();
        sleepNow();
        sleepNone();
        soonNone();
        soonUpToMonth6000();
        worthMonths();
        worthNone();
        worthBeyondTheMonths();
        rowsOfTheBook();
        rowWhats();
        aheadMonths();
        aheadLands();
        aheadUpToMonth6000();
        lettersMonths();
        lettersUpToMonth6000();
        rescueWhats();
        rescueUpToMonth6000();
        booksWhats();
        booksBroughtIn();
        booksCredited();
        booksTakenOut();
        booksInAccounts();
        booksClaimed();
        printOfNone();
        printWrapsAround();
        printOfEachState();
        statusCounts();
        statusOthers();
        statusStays();
        Bank.end("Promise14To30Test");
    }

    private static void undoAnswers() {
        Bank.sentence("Promise 14: how many ACTS still can be taken back behind it; NONE: none could");
        Bank bank = new Bank();
        Bank.same("none", bank.it.undo(), Bank.NONE);
        Bank.same("undo is no act", bank.it.told(9), 0);
        bank.it.months(1);
        Bank.same("one", bank.it.undo(), 0);
        Bank.same("none again", bank.it.undo(), Bank.NONE);
        for (int i = 0; i < 8; i++) {
            bank.it.months(1);
        }
        for (int left = 7; left >= 0; left--) {
            Bank.same("eight", bank.it.undo(), left);
        }
        Bank.same("none behind eight", bank.it.undo(), Bank.NONE);
        Bank.same("undo refuses nothing", bank.it.status(0) + bank.it.status(1) + bank.it.status(2), 0);
    }

    private static void undoOfAText() {
        Bank.sentence("Promise 14: an ACT taken back: a text(), to the one ahead of it and to none");
        Bank bank = new Bank();
        bank.tell(A + "wait 7;letter 5;sleep box a 1;pays box 9;order birth;");
        bank.it.open(BOX, 0, 0, 50);
        bank.it.months(25);
        String world = bank.twin().world();
        bank.tell(lands(5) + "home e;sleep box e 2;");
        bank.it.open(BOX, 4, 4, 60);
        bank.it.months(2);
        Bank.same("months", bank.it.undo(), 5);
        Bank.same("open", bank.it.undo(), 4);
        Bank.same("text", bank.it.undo(), 3);
        Bank.alike("the text ahead of it", bank.twin().world(), world);
        bank.it.undo();
        bank.it.undo();
        Bank.same("the first text", bank.it.undo(), 0);
        Bank.alike("none", bank.world(), new Bank().world());
    }

    private static void undoOfMonths() {
        Bank.sentence("Promise 14: an ACT taken back: months() whole, rows and all, and it goes on as from there");
        Bank bank = Bank.told("land a 0 9 600 2;sleep box a 1;letter 3;pays box 90;");
        bank.it.open(BOX, 0, Bank.NONE, 40_000);
        bank.it.open(BOX, 0, Bank.NONE, 5);
        String world = bank.twin().world();
        bank.it.months(12);
        String handed = bank.twin().world();
        Bank.same("undo", bank.it.undo(), 3);
        Bank.alike("as before", bank.twin().world(), world);
        bank.refuses("no row", Bank.NO_SUCH, () -> bank.it.row(0, 0));
        bank.it.months(12);
        Bank.alike("the same again", bank.twin().world(), handed);
        bank.it.undo();
        bank.it.contact(0);
        bank.it.months(12);
        Bank.same("a row of what is handed then", bank.it.row(1, 3), bank.it.account(1, 3));
    }

    private static void whats(Bank bank, String name, int most, java.util.function.IntToLongFunction asked) {
        for (int what = 0; what <= most; what++) {
            int one = what;
            Bank.same(name + what, Bank.kindOfRefusal(() -> asked.applyAsLong(one)), Bank.NONE);
        }
        for (int what : new int[] {-1, most + 1, most + 2, Integer.MIN_VALUE, Integer.MAX_VALUE}) {
            bank.refuses(name + what, Bank.ARGUMENT, () -> asked.applyAsLong(what));
        }
    }

    private static void toldWhats() {
        Bank.sentence("Promise 15: told: 0 .. 9");
        Bank none = new Bank();
        whats(none, "told ", 9, what -> none.it.told(what));
        Bank bank = Bank.told(lands(2) + "wait 60;letter 999;home b;sleep box a 1;");
        bank.it.open(BOX, 0, Bank.NONE, 9);
        bank.it.open(BOX, Bank.NONE, Bank.NONE, 9);
        bank.it.months(120);
        bank.it.feed(1, 2, 3, 4, 5);
        int[] want = {2, 2, 120, 60, 999, 1, 1, 1, 20, 4};
        for (int what = 0; what < want.length; what++) {
            Bank.same("told(" + what + ")", bank.it.told(what), want[what]);
        }
    }

    private static void toldHome() {
        Bank.sentence("Promise 15: 5 home (NONE without LANDS)");
        Bank bank = new Bank();
        Bank.same("new", bank.it.told(5), Bank.NONE);
        bank.tell("wait 1;");
        Bank.same("behind a faulty text", bank.it.told(5), Bank.NONE);
        bank.tell(A);
        Bank.same("with a land", bank.it.told(5), 0);
        bank.it.undo();
        Bank.same("taken back", bank.it.told(5), Bank.NONE);
    }

    private static void toldCounts() {
        Bank.sentence("Promise 15: 6 rows of the book, 7 LETTERS sent so far, 9 ACTS that can be taken back");
        Bank bank = Bank.told(A + "sleep box a 1;wait 60;");
        for (int i = 0; i < 12; i++) {
            bank.it.open(BOX, 0, Bank.NONE, 9);
        }
        Bank.same("8 of 13 acts", bank.it.told(9), 8);
        Bank.same("no letters", bank.it.told(7), 0);
        bank.it.months(1);
        Bank.same("twelve letters", bank.it.told(7), 12);
        bank.it.contact(0);
        bank.it.close(1);
        bank.it.months(1);
        Bank.same("one more", bank.it.told(7), 13);
        Bank.same("no rows", bank.it.told(6), 0);
        bank.it.months(120);
        Bank.same("eleven rows", bank.it.told(6), 11);
        bank.it.claim(0);
        Bank.same("eleven rows still", bank.it.told(6), 11);
        Bank.same("letters of the claimed and the closed", bank.it.told(7), 13);
    }

    private static void landWhats() {
        Bank.sentence("Promise 16: land: 0 .. 5 of a LAND there is");
        Bank bank = Bank.told("land a 11 9999 999 50;land b 0 0 0 1;");
        whats(bank, "land 0, ", 5, what -> bank.it.land(0, what));
        whats(bank, "land 1, ", 5, what -> bank.it.land(1, what));
        for (int land : new int[] {-1, 2, 5, Integer.MIN_VALUE, Integer.MAX_VALUE}) {
            bank.refuses("land " + land, Bank.NO_SUCH, () -> bank.it.land(land, 0));
            bank.refuses("land " + land + ", no what", Bank.NO_SUCH, () -> bank.it.land(land, 6));
        }
        int[][] want = {{11, 9_999, 999, 50, 0, 0}, {0, 0, 0, 1, 0, 0}};
        for (int land = 0; land < 2; land++) {
            for (int what = 0; what < 6; what++) {
                Bank.same("land(" + land + ", " + what + ")", bank.it.land(land, what), want[land][what]);
            }
        }
    }

    private static void landBits() {
        Bank.sentence("Promise 16: 4 KINDS it takes (bits), 5 ACCOUNTS that it HOLDS (bits)");
        Bank bank = Bank.told(lands(2) + "sleep savings a 1;sleep box a 1;sleep wages b 1;");
        Bank.same("the first and the last kind", bank.it.land(0, 4), 17);
        Bank.same("one kind", bank.it.land(1, 4), 2);
        for (int i = 0; i < 12; i++) {
            bank.it.open(i == 0 || i == 11 ? BOX : i == 5 ? SAVINGS : WAGES, 0, 1, i);
        }
        bank.it.close(3);
        Bank.same("none yet", bank.it.land(0, 5), 0);
        bank.it.months(12);
        Bank.same("the first and the last account", bank.it.land(0, 5), 1 + 32 + 2048);
        Bank.same("of b all others but the closed", bank.it.land(1, 5), 4095 - 1 - 32 - 2048 - 8);
    }

    private static void purseWhats() {
        Bank.sentence("Promise 17: purse: 0 .. 3 of a LAND there is");
        Bank bank = Bank.told(lands(2));
        whats(bank, "purse 0, ", 3, what -> bank.it.purse(0, what));
        whats(bank, "purse 1, ", 3, what -> bank.it.purse(1, what));
        for (int land : new int[] {-1, 2, 5, Integer.MIN_VALUE, Integer.MAX_VALUE}) {
            bank.refuses("purse " + land, Bank.NO_SUCH, () -> bank.it.purse(land, 0));
            bank.refuses("purse " + land + ", no what", Bank.NO_SUCH, () -> bank.it.purse(land, 4));
        }
    }

    private static void purse(Bank bank, int land, long... want) {
        for (int what = 0; what < want.length; what++) {
            Bank.same("purse(" + land + ", " + what + ")", bank.it.purse(land, what), want[what]);
        }
    }

    private static void purseCents() {
        Bank.sentence("Promise 17: CENTS: held, INTEREST paid, of rows of the book with it, PASSED ON to it; beyond an int");
        Bank bank = Bank.told("land a 0 0 999 50;land b 0 0 999 50;sleep box a 1;sleep box b 1;order address;");
        for (int i = 0; i < 12; i++) {
            bank.it.open(BOX, 0, Bank.NONE, MOST);
        }
        purse(bank, 0, 0, 0, 0, 0);
        bank.it.months(12);
        purse(bank, 0, 12L * MOST, 0, 12L * MOST, 0);
        purse(bank, 1, 0, 0, 0, 0);
        for (int i = 0; i < 12; i++) {
            bank.it.address(i, 1);
            bank.it.pass(i);
        }
        for (int i = 0; i < 12; i++) {
            bank.it.address(i, 0);
            bank.it.pass(i);
        }
        for (int i = 0; i < 12; i++) {
            bank.it.address(i, 1);
            bank.it.pass(i);
        }
        purse(bank, 0, 0, 0, 12L * MOST, 12L * MOST);
        purse(bank, 1, 12L * MOST, 0, 0, 24L * MOST);
        bank.go(600);
        for (int i = 0; i < 12; i++) {
            Bank.same("claim", bank.it.claim(i), 599_500_000L);
        }
        purse(bank, 0, 0, 0, 12L * MOST, 12L * MOST);
        purse(bank, 1, 0, 12 * 499_500_000L, 0, 24L * MOST);
        Bank.same("claimed", bank.it.books(6), 12L * MOST);
    }

    private static void letters() {
        Bank.sentence("Promise 18: letter i of a LAND's NAME; NoSuchElementException: also no such letter");
        String[] names = {"a", "zz", "abcdef", "bcdefg", "yxwvu"};
        StringBuilder text = new StringBuilder();
        for (String name : names) {
            text.append("land ").append(name).append(" 0 0 0 1;");
        }
        Bank bank = Bank.told(text.toString());
        for (int land = 0; land < 5; land++) {
            String name = names[land];
            int number = land;
            for (int i = 0; i < name.length(); i++) {
                Bank.same("letter(" + land + ", " + i + ")", bank.it.letter(land, i), name.charAt(i));
            }
            for (int i : new int[] {-1, name.length(), 6, 7, Integer.MIN_VALUE, Integer.MAX_VALUE}) {
                bank.refuses("letter(" + land + ", " + i + ")", Bank.NO_SUCH, () -> bank.it.letter(number, i));
            }
        }
        for (int land : new int[] {-1, 5, Integer.MIN_VALUE, Integer.MAX_VALUE}) {
            bank.refuses("letter(" + land + ", 0)", Bank.NO_SUCH, () -> bank.it.letter(land, 0));
        }
        Bank shorter = Bank.told("land abcdef 0 0 0 1;");
        shorter.tell("land xy 0 0 0 1;");
        shorter.refuses("a letter of the text before", Bank.NO_SUCH, () -> shorter.it.letter(0, 2));
    }

    private static void paysOfKinds() {
        Bank.sentence("Promise 19: what a KIND (0 to 4) PAYS");
        Bank bank = Bank.told(A + "pays savings 1;pays wages 998;pays shares 0;pays box 999;");
        int[] want = {1, 998, 0, 0, 999};
        for (int kind = 0; kind < 5; kind++) {
            Bank.same("pays(" + kind + ")", bank.it.pays(kind), want[kind]);
        }
        whats(bank, "pays ", 4, kind -> bank.it.pays(kind));
        Bank none = new Bank();
        whats(none, "pays ", 4, kind -> none.it.pays(kind));
    }

    private static void accountWhats() {
        Bank.sentence("Promise 20: account: 0 .. 10 of an ACCOUNT there is");
        Bank bank = Bank.told(A);
        bank.it.open(BOX, 0, Bank.NONE, 5);
        whats(bank, "account 0, ", 10, what -> bank.it.account(0, what));
        for (int account : new int[] {-1, 1, 12, Integer.MIN_VALUE, Integer.MAX_VALUE}) {
            bank.refuses("account " + account, Bank.NO_SUCH, () -> bank.it.account(account, 0));
            bank.refuses("account " + account + ", no what", Bank.NO_SUCH, () -> bank.it.account(account, 11));
        }
        for (int i = 1; i < 12; i++) {
            bank.it.open(BOX, 0, Bank.NONE, i);
        }
        Bank.same("the twelfth", bank.it.account(11, 3), 11);
        bank.refuses("a thirteenth", Bank.NO_SUCH, () -> bank.it.account(12, 3));
    }

    /** Handed, nameless, claimed, closed while written, and one that is written; the MONTH is 12. */
    private static Bank ended() {
        Bank bank = Bank.told("land a 0 50 600 2;land b 0 0 0 1;sleep box a 4;sleep box b 4;sleep savings b 11;letter 1;"
                + "order address;");
        int[] cents = {900, 50, 700, 600, 500};
        for (int i = 0; i < cents.length; i++) {
            bank.it.open(i == 4 ? SAVINGS : BOX, i == 4 ? 1 : 0, Bank.NONE, cents[i]);
        }
        bank.it.months(6);
        bank.it.close(3);
        bank.it.months(6);
        bank.it.claim(2);
        return bank;
    }

    private static void accountCents() {
        Bank.sentence("Promise 20: 3 CENTS (HANDED: those that were; CLAIMED, CLOSED: 0), 5 AGE, 6 SINCE as HANDED, CLOSED");
        Bank bank = ended();
        int[] cents = {899, 49, 0, 0, 499};
        int[] states = {2, 2, 3, 4, 1};
        int[] ages = {12, 12, 12, 6, 12};
        for (int months = 0; months <= 5; months += 5) {
            bank.go(months);
            for (int i = 0; i < 5; i++) {
                Bank.same("cents of " + i, bank.it.account(i, 3), cents[i]);
                Bank.same("state of " + i, bank.it.account(i, 4), states[i]);
                int age = ages[i] + (i == 4 ? months : 0);
                Bank.same("age of " + i, bank.it.account(i, 5), age);
                Bank.same("since of " + i, bank.it.account(i, 6), age);
                Bank.same("nameless " + i, bank.it.account(i, 10), i == 1 ? 1 : 0);
            }
        }
        bank.it.claim(0);
        Bank.same("claimed: age as it was handed", bank.it.account(0, 5), 12);
        Bank.same("claimed: since as it was handed", bank.it.account(0, 6), 12);
    }

    private static void accountLand() {
        Bank.sentence("Promise 20: 8 LAND (HANDED: that which HOLDS it; CLAIMED, CLOSED: NONE)");
        Bank bank = ended();
        int[] lands = {0, 0, Bank.NONE, Bank.NONE, 1};
        int[] moved = {0, 0, Bank.NONE, Bank.NONE, Bank.NONE};
        for (int i = 0; i < 5; i++) {
            Bank.same("land of " + i, bank.it.account(i, 8), lands[i]);
            bank.it.address(i, i == 4 ? 0 : 1);
            Bank.same("land of " + i + ", moved", bank.it.account(i, 8), moved[i]);
        }
        bank.it.pass(0);
        Bank.same("passed on", bank.it.account(0, 8), 1);
    }

    private static void accountLatestLetter() {
        Bank.sentence("Promise 20: 7 LETTERS, 9 the MONTH of its latest LETTER (NONE)");
        Bank bank = Bank.told(A + "sleep box a 3;wait 60;");
        bank.it.open(BOX, 0, Bank.NONE, 5);
        bank.it.months(2);
        Bank.same("none", bank.it.account(0, 9), Bank.NONE);
        int[] latest = {3, 6, 9};
        bank.it.months(1);
        for (int i = 0; i < 3; i++) {
            Bank.same("letters", bank.it.account(0, 7), i + 1);
            Bank.same("the latest", bank.it.account(0, 9), latest[i]);
            bank.it.contact(0);
            Bank.same("stays by a contact", bank.it.account(0, 9), latest[i]);
            bank.it.months(3);
        }
        bank.it.close(0);
        Bank.same("of a closed one", bank.it.account(0, 9), 12);
        bank.it.open(BOX, 0, Bank.NONE, 5);
        Bank.same("none of a new one", bank.it.account(1, 9), Bank.NONE);
    }

    private static void sleepNow() {
        Bank.sentence("Promise 21: SLEEP now");
        Bank bank = Bank.told(lands(2) + "sleep box a 3*age+since;sleep box b 600;pays box 1;order address;");
        bank.it.open(BOX, 0, Bank.NONE, 5);
        for (int month = 0; month < 4; month++) {
            Bank.same("sleep in month " + month, bank.it.sleep(0), 4 * month);
            bank.it.months(1);
        }
        bank.it.contact(0);
        Bank.same("behind a contact", bank.it.sleep(0), 12);
        bank.it.address(0, 1);
        Bank.same("elsewhere", bank.it.sleep(0), 600);
    }

    private static void sleepNone() {
        Bank.sentence("Promise 21: NONE: no LAND, not AWAKE or WRITTEN");
        Bank bank = ended();
        int[] want = {Bank.NONE, Bank.NONE, Bank.NONE, Bank.NONE, 11};
        for (int i = 0; i < 5; i++) {
            Bank.same("sleep of " + i, bank.it.sleep(i), want[i]);
        }
        bank.it.address(4, Bank.NONE);
        Bank.same("written, no land", bank.it.sleep(4), Bank.NONE);
        bank.it.open(BOX, 1, 0, 9);
        Bank.same("awake", bank.it.sleep(5), 4);
        bank.it.open(WAGES, 0, 1, 9);
        Bank.same("awake, no land", bank.it.sleep(6), Bank.NONE);
        for (int account : new int[] {-1, 7, 12, Integer.MIN_VALUE, Integer.MAX_VALUE}) {
            bank.refuses("sleep of " + account, Bank.NO_SUCH, () -> bank.it.sleep(account));
        }
    }

    private static void soonNone() {
        Bank.sentence("Promise 22: SOON; NONE: not in 600, not AWAKE or WRITTEN");
        Bank bank = ended();
        int[] want = {Bank.NONE, Bank.NONE, Bank.NONE, Bank.NONE, 12};
        for (int i = 0; i < 5; i++) {
            Bank.same("soon of " + i, bank.it.soon(i), want[i]);
        }
        bank.it.address(4, Bank.NONE);
        Bank.same("no land", bank.it.soon(4), Bank.NONE);
        for (int account : new int[] {-1, 5, 12, Integer.MIN_VALUE, Integer.MAX_VALUE}) {
            bank.refuses("soon of " + account, Bank.NO_SUCH, () -> bank.it.soon(account));
        }
        Bank far = Bank.told(lands(2) + "sleep box a 597;sleep wages a 598;sleep savings a 600;");
        for (int kind : new int[] {BOX, WAGES, SAVINGS}) {
            far.it.open(kind, 0, Bank.NONE, 9);
        }
        Bank.same("in 600", far.it.soon(0), 600);
        Bank.same("in 612", far.it.soon(1), Bank.NONE);
        far.it.months(11);
        Bank.same("in 601", far.it.soon(1), Bank.NONE);
        far.it.months(1);
        Bank.same("in 600 now", far.it.soon(1), 600);
        Bank.same("in 600 now, the latest sleep", far.it.soon(2), 600);
    }

    /** In month 6,000 less so many: a box that is handed 3 months on, one 4 on, one 5 on. */
    private static Bank late(int months) {
        int first = (6000 - months + 3) % 12;
        Bank bank = Bank.told("land a " + first + " 0 0 1;land b " + (first + 1) % 12 + " 0 0 1;land c " + (first + 2) % 12
                + " 0 0 1;sleep box a 1;sleep box b 1;sleep box c 1;wait 2;letter 1;");
        bank.go(6000 - months);
        for (int land = 0; land < 3; land++) {
            bank.it.open(BOX, land, Bank.NONE, 101 * (land + 1));
        }
        return bank;
    }

    private static void soonUpToMonth6000() {
        Bank.sentence("Promise 22: NONE: .. not up to MONTH 6,000");
        int[] left = {5, 4, 3, 2, 1, 0};
        for (int months : left) {
            Bank bank = late(months);
            for (int i = 0; i < 3; i++) {
                Bank.same("soon of " + i + " with " + months + " left", bank.it.soon(i), 3 + i <= months ? 3 + i : Bank.NONE);
            }
            if (months > 0) {
                Bank.same("so they go", bank.it.months(months), Math.max(0, months - 2));
            }
        }
    }

    private static void worthMonths() {
        Bank.sentence("Promise 23: what a CLAIM would bring n MONTHS (0 to 600) from now");
        Bank bank = Bank.told("land a 0 0 100 50;sleep box a 1;");
        bank.it.open(BOX, 0, Bank.NONE, 1_200_000);
        bank.it.months(12);
        for (int n : new int[] {0, 1, 2, 12, 599, 600}) {
            Bank.same("worth(0, " + n + ")", bank.it.worth(0, n), 1_200_000 + 1_000 * n);
        }
        for (int n : new int[] {-1, 601, Integer.MIN_VALUE, Integer.MAX_VALUE}) {
            bank.refuses("worth(0, " + n + ")", Bank.ARGUMENT, () -> bank.it.worth(0, n));
        }
        bank.it.months(5);
        Bank.same("from now", bank.it.worth(0, 0), 1_205_000);
        Bank.same("from now on", bank.it.worth(0, 595), 1_800_000);
        Bank.same("not above the years", bank.it.worth(0, 596), 1_800_000);
        Bank.same("not above the years", bank.it.worth(0, 600), 1_800_000);
    }

    private static void worthNone() {
        Bank.sentence("Promise 23: NONE: it is not HANDED, it is NAMELESS");
        Bank bank = ended();
        int[] want = {899, Bank.NONE, Bank.NONE, Bank.NONE, Bank.NONE};
        for (int i = 0; i < 5; i++) {
            int account = i;
            Bank.same("worth of " + i, bank.it.worth(i, 0), want[i]);
            Bank.same("worth of " + i + " later", bank.it.worth(i, 600), want[i] == Bank.NONE ? Bank.NONE : 899 + 107);
            bank.refuses("601 of " + i, Bank.ARGUMENT, () -> bank.it.worth(account, 601));
        }
        for (int account : new int[] {-1, 5, 12, Integer.MIN_VALUE, Integer.MAX_VALUE}) {
            bank.refuses("worth of " + account, Bank.NO_SUCH, () -> bank.it.worth(account, 0));
        }
        bank.it.open(BOX, 0, Bank.NONE, 0);
        Bank.same("awake", bank.it.worth(5, 0), Bank.NONE);
    }

    private static void worthBeyondTheMonths() {
        Bank.sentence("Promise 23: n MONTHS (0 to 600) from now, if nothing else is done, in the last MONTH too");
        Bank bank = late(3);
        bank.it.months(3);
        Bank.same("the last month", bank.it.told(2), 6000);
        Bank.same("now", bank.it.worth(0, 0), 100);
        Bank.same("later", bank.it.worth(0, 600), 100);
    }

    private static void rowsOfTheBook() {
        Bank.sentence("Promise 24: a row of the book: the first .. the last; NoSuchElementException: no such row");
        Bank bank = Bank.told("land a 0 0 0 1;sleep box a 1;");
        bank.refuses("row 0 of none", Bank.NO_SUCH, () -> bank.it.row(0, 0));
        for (int i = 0; i < 12; i++) {
            bank.it.open(BOX, 0, Bank.NONE, i);
        }
        bank.it.months(12);
        for (int k = 0; k < 12; k++) {
            int[] want = {12, k, 0, k, 0};
            for (int what = 0; what < 5; what++) {
                Bank.same("row(" + k + ", " + what + ")", bank.it.row(k, what), want[what]);
            }
        }
        for (int k : new int[] {-1, 12, Integer.MIN_VALUE, Integer.MAX_VALUE}) {
            bank.refuses("row " + k, Bank.NO_SUCH, () -> bank.it.row(k, 0));
            bank.refuses("row " + k + ", no what", Bank.NO_SUCH, () -> bank.it.row(k, 5));
        }
    }

    private static void rowWhats() {
        Bank.sentence("Promise 24: row: 0 .. 4");
        Bank bank = ended();
        whats(bank, "row 0, ", 4, what -> bank.it.row(0, what));
        Bank.same("not nameless", bank.it.row(0, 4), 0);
        Bank.same("nameless", bank.it.row(1, 4), 1);
    }

    private static void aheadMonths() {
        Bank.sentence("Promise 25: CENTS that will be HANDED in n MONTHS (1 to 120)");
        Bank bank = Bank.told(lands(1) + "sleep box a 117;sleep wages a 129;");
        bank.it.months(11);
        bank.it.open(BOX, 0, Bank.NONE, 5);
        bank.it.open(WAGES, 0, Bank.NONE, 70);
        for (int n : new int[] {0, -1, 121, Integer.MIN_VALUE, Integer.MAX_VALUE}) {
            bank.refuses("ahead(0, " + n + ")", Bank.ARGUMENT, () -> bank.it.ahead(0, n));
            bank.refuses("ahead(NONE, " + n + ")", Bank.ARGUMENT, () -> bank.it.ahead(Bank.NONE, n));
        }
        Bank.same("in 1", bank.it.ahead(0, 1), 0);
        Bank.same("in 120", bank.it.ahead(0, 120), 0);
        bank.it.months(1);
        Bank.same("in 119", bank.it.ahead(0, 119), 0);
        Bank.same("in 120, one of two", bank.it.ahead(0, 120), 5);
        bank.it.months(12);
        Bank.same("in 119", bank.it.ahead(0, 119), 5);
        Bank.same("in 120, both", bank.it.ahead(0, 120), 75);
        Bank.same("so it goes", bank.it.months(120), 2);
        Bank.same("no more", bank.it.ahead(0, 120), 0);
    }

    private static void aheadLands() {
        Bank.sentence("Promise 25: HANDED to a LAND (NONE: to all); NoSuchElementException: no such LAND");
        Bank bank = Bank.told(lands(5) + "sleep box a 1;sleep box c 1;sleep box e 1;order address;");
        int[] cents = {MOST, 1, MOST, 1, MOST, 7};
        for (int i = 0; i < cents.length; i++) {
            bank.it.open(BOX, i % 5, Bank.NONE, cents[i]);
        }
        long[] want = {MOST + 7L, 0, MOST, 0, MOST};
        for (int land = 0; land < 5; land++) {
            Bank.same("ahead(" + land + ")", bank.it.ahead(land, 12), want[land]);
        }
        Bank.same("to all", bank.it.ahead(Bank.NONE, 12), 3L * MOST + 7);
        for (int land : new int[] {-2, 5, Integer.MIN_VALUE, Integer.MAX_VALUE}) {
            bank.refuses("ahead(" + land + ")", Bank.NO_SUCH, () -> bank.it.ahead(land, 1));
            bank.refuses("ahead(" + land + "), no months", Bank.NO_SUCH, () -> bank.it.ahead(land, 0));
        }
        Bank all = Bank.told(A + "sleep box a 1;");
        for (int i = 0; i < 12; i++) {
            all.it.open(BOX, 0, Bank.NONE, MOST);
        }
        Bank.same("all that there can be", all.it.ahead(0, 12), 12L * MOST);
        bank.it.months(12);
        Bank.same("what is held is not ahead", bank.it.ahead(Bank.NONE, 120), 0);
    }

    private static void aheadUpToMonth6000() {
        Bank.sentence("Promise 25: in n MONTHS (1 to 120; up to MONTH 6,000)");
        long[] sums = {0, 0, 0, 100, 301, 603};
        for (int months = 0; months <= 5; months++) {
            Bank bank = late(months);
            Bank.same("to all with " + months + " left", bank.it.ahead(Bank.NONE, 120), sums[months]);
            Bank.same("to a with " + months + " left", bank.it.ahead(0, 120), months < 3 ? 0 : 100);
            Bank.same("in 3 with " + months + " left", bank.it.ahead(Bank.NONE, 3), months < 3 ? 0 : 100);
        }
    }

    private static void lettersMonths() {
        Bank.sentence("Promise 26: LETTERS that will be sent in n MONTHS (1 to 120)");
        Bank bank = Bank.told(A + "sleep box a 1;sleep wages a 120;sleep savings a 121;order address;");
        bank.refuses("letters(0)", Bank.ARGUMENT, () -> bank.it.letters(0));
        bank.refuses("letters(-1)", Bank.ARGUMENT, () -> bank.it.letters(-1));
        bank.refuses("letters(121)", Bank.ARGUMENT, () -> bank.it.letters(121));
        bank.refuses("letters(least)", Bank.ARGUMENT, () -> bank.it.letters(Integer.MIN_VALUE));
        bank.refuses("letters(most)", Bank.ARGUMENT, () -> bank.it.letters(Integer.MAX_VALUE));
        Bank.same("none", bank.it.letters(120), 0);
        for (int i = 0; i < 10; i++) {
            bank.it.open(BOX, i == 9 ? Bank.NONE : 0, Bank.NONE, 5);
        }
        bank.it.open(WAGES, 0, Bank.NONE, 5);
        bank.it.open(SAVINGS, 0, Bank.NONE, 5);
        Bank.same("in 1", bank.it.letters(1), 9);
        Bank.same("in 119", bank.it.letters(119), 9);
        Bank.same("in 120", bank.it.letters(120), 10);
        bank.it.months(1);
        Bank.same("in 1", bank.it.letters(1), 0);
        Bank.same("in 119", bank.it.letters(119), 1);
        Bank.same("in 120", bank.it.letters(120), 2);
        bank.it.close(11);
        Bank.same("none of a closed one", bank.it.letters(120), 1);
        bank.it.contact(0);
        Bank.same("one more of a contact", bank.it.letters(120), 2);
        Bank.same("so far it is", bank.it.told(7), 9);
    }

    private static void lettersUpToMonth6000() {
        Bank.sentence("Promise 26: .. likewise (up to MONTH 6,000)");
        for (int months = 0; months <= 2; months++) {
            Bank bank = late(months);
            Bank.same("with " + months + " left", bank.it.letters(120), months == 0 ? 0 : 3);
        }
        Bank bank = Bank.told(A + "sleep box a 4;");
        bank.go(5996);
        bank.it.open(BOX, 0, Bank.NONE, 5);
        Bank.same("in the last month", bank.it.letters(120), 1);
        Bank.same("ahead of it", bank.it.letters(3), 0);
        bank.it.months(1);
        bank.it.contact(0);
        Bank.same("not any more", bank.it.letters(120), 0);
    }

    private static void rescueWhats() {
        Bank.sentence("Promise 27: RESCUE: 0 the set, 1 CENTS HANDED then");
        Bank bank = Bank.told(A + "sleep box a 1;");
        bank.it.open(BOX, 0, Bank.NONE, 5);
        bank.it.open(BOX, 0, Bank.NONE, 60);
        bank.it.months(9);
        whats(bank, "rescue ", 1, what -> bank.it.rescue(1, 3, what));
        for (int what : new int[] {0, 1}) {
            for (int k = 1; k <= 3; k++) {
                int by = k;
                long[] want = {Math.min(3, k + 1), k == 1 ? 5 : 0};
                Bank.same("rescue(" + k + ", 3, " + what + ")", bank.it.rescue(k, 3, what), want[what]);
                bank.refuses("no months", Bank.ARGUMENT, () -> bank.it.rescue(by, 0, what));
                bank.refuses("too many months", Bank.ARGUMENT, () -> bank.it.rescue(by, 121, what));
            }
            bank.refuses("by none", Bank.ARGUMENT, () -> bank.it.rescue(0, 3, what));
            bank.refuses("by four", Bank.ARGUMENT, () -> bank.it.rescue(4, 3, what));
            Bank.same("for 1", bank.it.rescue(1, 1, what), 1 - what);
            Bank.same("for 120", bank.it.rescue(1, 120, what), what == 0 ? 1 : 65);
        }
        Bank all = Bank.told(A + "sleep box a 1;");
        for (int i = 0; i < 12; i++) {
            all.it.open(BOX, 0, Bank.NONE, MOST);
        }
        all.it.months(10);
        Bank.same("beyond an int", all.it.rescue(1, 2, 1), 11L * MOST);
        Bank.same("its set", all.it.rescue(1, 2, 0), 1);
    }

    private static void rescueUpToMonth6000() {
        Bank.sentence("Promise 27: RESCUE for n MONTHS, of which none is beyond MONTH 6,000");
        Bank bank = late(4);
        bank.it.months(2);
        Bank.same("one of two", bank.it.rescue(1, 120, 0), 2);
        Bank.same("the other's cents", bank.it.rescue(1, 120, 1), 100);
        Bank.same("both", bank.it.rescue(2, 120, 0), 3);
        Bank.same("no cents", bank.it.rescue(2, 120, 1), 0);
        bank.it.months(2);
        Bank.same("the last month", bank.it.rescue(3, 120, 0), 4);
        Bank.same("no cents any more", bank.it.rescue(3, 120, 1), 0);
    }

    private static void booksWhats() {
        Bank.sentence("Promise 28: books: 0 .. 6");
        Bank none = new Bank();
        whats(none, "books ", 6, what -> none.it.books(what));
        Bank bank = ended();
        whats(bank, "books ", 6, what -> bank.it.books(what));
        long[] want = {2750, 0, 599, 5, 499, 948, 699};
        for (int what = 0; what < want.length; what++) {
            Bank.same("books(" + what + ")", bank.it.books(what), want[what]);
        }
    }

    private static void booksBroughtIn() {
        Bank.sentence("Promise 28: 0 brought in (at opening, too); beyond an int");
        Bank bank = Bank.told(A);
        for (int i = 0; i < 12; i++) {
            bank.it.open(BOX, 0, Bank.NONE, MOST);
        }
        Bank.same("at opening", bank.it.books(0), 12L * MOST);
        long brought = 12L * MOST;
        for (int i = 0; i < 100; i++) {
            bank.it.draw(0, 1_000_000);
        }
        Bank.same("drawn", bank.it.books(2), MOST);
        for (int i = 0; i < 100; i++) {
            bank.it.deposit(0, 1_000_000);
            brought += 1_000_000;
        }
        Bank.same("brought again", bank.it.books(0), brought);
        for (int i = 0; i < 12; i++) {
            bank.it.close(i);
        }
        Bank.same("stays by closing", bank.it.books(0), brought);
        Bank.same("paid out", bank.it.books(2), brought);
        Bank.same("none left", bank.it.books(4), 0);
    }

    private static void booksCredited() {
        Bank.sentence("Promise 28: 1 INTEREST that the bank credited, 3 letter cents: so much as there was");
        Bank bank = Bank.told(A + "pays box 999;sleep box a 3;letter 999;");
        bank.it.open(BOX, 0, Bank.NONE, MOST - 1);
        bank.it.open(BOX, 0, Bank.NONE, 119);
        bank.it.open(BOX, 0, Bank.NONE, 0);
        bank.it.months(1);
        Bank.same("credited", bank.it.books(1), 1);
        bank.it.months(1);
        Bank.same("not above the most", bank.it.books(1), 1);
        bank.it.months(1);
        Bank.same("letters", bank.it.books(3), 999 + 119);
        bank.it.months(1);
        Bank.same("room again", bank.it.books(1), 1 + 999);
        bank.it.close(0);
        Bank.same("stays by closing", bank.it.books(1), 1000);
        Bank.same("letters stay", bank.it.books(3), 1118);
    }

    private static void booksTakenOut() {
        Bank.sentence("Promise 28: 2 taken out, paid out at closing");
        Bank bank = Bank.told(A);
        bank.it.open(BOX, 0, Bank.NONE, 10);
        bank.it.open(BOX, 0, Bank.NONE, 0);
        bank.it.draw(0, 4);
        Bank.same("taken out", bank.it.books(2), 4);
        bank.it.close(1);
        Bank.same("nothing paid out", bank.it.books(2), 4);
        bank.it.close(0);
        Bank.same("paid out", bank.it.books(2), 10);
        bank.it.undo();
        Bank.same("taken back", bank.it.books(2), 4);
    }

    private static void booksInAccounts() {
        Bank.sentence("Promise 28: 4 in ACCOUNTS AWAKE or WRITTEN, 5 HELD by LANDS");
        Bank bank = Bank.told(A + "sleep box a 1;wait 2;");
        bank.it.open(BOX, 0, Bank.NONE, 10);
        Bank.same("awake", bank.it.books(4), 10);
        bank.it.months(11);
        Bank.same("written", bank.it.account(0, 4), 1);
        Bank.same("in accounts", bank.it.books(4), 10);
        Bank.same("held", bank.it.books(5), 0);
        bank.it.months(1);
        Bank.same("in accounts then", bank.it.books(4), 0);
        Bank.same("held then", bank.it.books(5), 10);
        bank.it.claim(0);
        Bank.same("not held any more", bank.it.books(5), 0);
    }

    private static void booksClaimed() {
        Bank.sentence("Promise 28: 6 CLAIMED (without INTEREST)");
        Bank bank = Bank.told("land a 0 0 999 50;sleep box a 1;");
        bank.it.open(BOX, 0, Bank.NONE, 1000);
        bank.it.open(BOX, 0, Bank.NONE, 0);
        bank.it.months(120);
        Bank.same("none", bank.it.books(6), 0);
        Bank.same("with interest", bank.it.claim(0), 1899);
        Bank.same("without", bank.it.books(6), 1000);
        bank.it.claim(1);
        Bank.same("nothing more", bank.it.books(6), 1000);
        bank.it.undo();
        bank.it.undo();
        Bank.same("taken back", bank.it.books(6), 0);
    }

    private static void printOfNone() {
        Bank.sentence("Promise 29: from 0 on, of ACCOUNT by ACCOUNT");
        Bank bank = Bank.told(A);
        Bank.same("none", bank.it.print(), 0);
        bank.it.open(BOX, 0, Bank.NONE, 0);
        Bank.same("one with nothing", bank.it.print(), 0);
        bank.it.open(BOX, 0, Bank.NONE, 1);
        Bank.same("two", bank.it.print(), 961);
        bank.it.months(1);
        Bank.same("since", bank.it.print(), 29_791 + 961 + 1);
    }

    private static void printWrapsAround() {
        Bank.sentence("Promise 29: 31 times what there is: it wraps around as a long does");
        Bank bank = Bank.told(A);
        java.math.BigInteger sum = java.math.BigInteger.ZERO;
        java.math.BigInteger by = java.math.BigInteger.valueOf(31);
        boolean below = false;
        for (int i = 0; i < 12; i++) {
            bank.it.open(BOX, 0, Bank.NONE, MOST - 7919 * i);
            sum = sum.multiply(by).add(java.math.BigInteger.valueOf(MOST - 7919 * i)).multiply(by).multiply(by);
            Bank.same("print of " + (i + 1), bank.it.print(), sum.longValue());
            below |= bank.it.print() < 0;
        }
        Bank.holds("beyond a long", sum.bitLength() > 64);
        Bank.holds("below 0 as well", below);
    }

    private static void printOfEachState() {
        Bank.sentence("Promise 29: CENTS .. STATE .. SINCE, as account() tells them, of all STATES");
        Bank bank = ended();
        long[][] all = {{899, 2, 12}, {49, 2, 12}, {0, 3, 12}, {0, 4, 6}, {499, 1, 12}};
        long sum = 0;
        for (long[] one : all) {
            for (long number : one) {
                sum = 31 * sum + number;
            }
        }
        Bank.same("print", bank.it.print(), sum);
    }

    private static void statusCounts() {
        Bank.sentence("Promise 30: how many calls were refused: 0 NoSuchElementException, 1 IllegalArgumentException, "
                + "2 IllegalStateException");
        Bank bank = ended();
        Bank.Call[][] calls = {
            {() -> bank.it.open(BOX, 2, 0, 1), () -> bank.it.contact(5), () -> bank.it.deposit(5, 1), () -> bank.it.draw(5, 1),
                () -> bank.it.address(5, 0), () -> bank.it.address(0, 2), () -> bank.it.close(5), () -> bank.it.claim(5),
                () -> bank.it.pass(5), () -> bank.it.land(2, 0), () -> bank.it.purse(2, 0), () -> bank.it.letter(0, 1),
                () -> bank.it.account(5, 0), () -> bank.it.sleep(5), () -> bank.it.soon(5), () -> bank.it.worth(5, 0),
                () -> bank.it.row(3, 0), () -> bank.it.ahead(2, 1)},
            {() -> bank.it.text(1), () -> bank.it.open(5, 0, 0, 1), () -> bank.it.deposit(4, 0), () -> bank.it.draw(4, 0),
                () -> bank.it.months(0), () -> bank.it.told(10), () -> bank.it.land(0, 6), () -> bank.it.purse(0, 4),
                () -> bank.it.pays(5), () -> bank.it.account(0, 11), () -> bank.it.worth(0, 601), () -> bank.it.row(0, 5),
                () -> bank.it.ahead(0, 0), () -> bank.it.letters(0), () -> bank.it.rescue(0, 1, 0), () -> bank.it.books(7)},
            {() -> bank.it.contact(0), () -> bank.it.deposit(0, 1), () -> bank.it.draw(0, 1), () -> bank.it.close(0),
                () -> bank.it.claim(1), () -> bank.it.pass(0), () -> bank.it.draw(4, 500)},
        };
        int[] want = new int[3];
        for (int kind = 0; kind < 3; kind++) {
            for (int i = 0; i < calls[kind].length; i++) {
                Bank.same("refusal " + i, Bank.kindOfRefusal(calls[kind][i]), kind);
                want[kind]++;
                for (int what = 0; what < 3; what++) {
                    Bank.same("status(" + what + ")", bank.it.status(what), want[what]);
                }
            }
        }
    }

    private static void statusOthers() {
        Bank.sentence("Promise 30: NONE for others");
        Bank bank = new Bank();
        for (int what : new int[] {-1, 3, 4, 100, Integer.MIN_VALUE, Integer.MAX_VALUE}) {
            Bank.same("status(" + what + ")", bank.it.status(what), Bank.NONE);
        }
        for (int what = 0; what < 3; what++) {
            Bank.same("status(" + what + ")", bank.it.status(what), 0);
        }
    }

    private static void statusStays() {
        Bank.sentence("Promise 30: how many calls were refused, of the object: neither text() nor undo() takes them back");
        Bank bank = Bank.told(A);
        bank.it.open(BOX, 0, Bank.NONE, 5);
        Bank.kindOfRefusal(() -> bank.it.contact(1));
        Bank.kindOfRefusal(() -> bank.it.months(0));
        Bank.kindOfRefusal(() -> bank.it.claim(0));
        bank.it.undo();
        bank.it.undo();
        bank.it.undo();
        bank.tell("x");
        bank.tell(A);
        bank.it.feed(0, 0, 0, 0, 0);
        for (int what = 0; what < 3; what++) {
            Bank.same("status(" + what + ")", bank.it.status(what), 1);
        }
    }
}
