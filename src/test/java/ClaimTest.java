/** Promises 12, 13, 17 and 23: claims with a land's interest, passing on, purses, worth. */
public final class ClaimTest {
    private static final int BOX = 4;

    public static void main(String[] args) {
        claims();
        interestOfWholeMonths();
        noMoreThanTheYears();
        greatSums();
        refusedClaims();
        passing();
        refusedPassing();
        namelessPassing();
        rateOfTheHolder();
        worth();
        purses();
        Bank.end("ClaimTest");
    }

    /** Accounts of 10,000, 400 and 12,345,678 cents, handed to land 0 in month 12; 400 nameless. */
    private static Bank handed() {
        Bank bank = Bank.told("land a 0 500 120 2;land b 6 0 600 50;sleep box a 4;sleep box b 4;order address birth;");
        bank.it.open(BOX, 0, 1, 10_000);
        bank.it.open(BOX, 0, 1, 400);
        bank.it.open(BOX, 0, Bank.NONE, 12_345_678);
        Bank.same("handed", bank.it.months(12), 3);
        return bank;
    }

    private static void claims() {
        Bank bank = handed();
        Bank.same("at once", bank.it.claim(0), 10_000);
        int[] want = {4, 0, 1, 0, 3, 12, 12, 1, Bank.NONE, 4, 0};
        for (int what = 0; what < want.length; what++) {
            Bank.same("account(0, " + what + ")", bank.it.account(0, what), want[what]);
        }
        Bank.same("held", bank.it.purse(0, 0), 12_346_078);
        Bank.same("interest paid", bank.it.purse(0, 1), 0);
        Bank.same("in rows", bank.it.purse(0, 2), 12_356_078);
        Bank.same("who is held", bank.it.land(0, 5), 6);
        Bank.same("books(5)", bank.it.books(5), 12_346_078);
        Bank.same("books(6)", bank.it.books(6), 10_000);
        bank.it.months(1);
        Bank.same("a month", bank.it.claim(2), 12_345_678 + 12_345);
        Bank.same("interest paid", bank.it.purse(0, 1), 12_345);
        Bank.same("books(6)", bank.it.books(6), 12_355_678);
        Bank.same("books(2)", bank.it.books(2), 0);
    }

    private static void interestOfWholeMonths() {
        Bank bank = handed();
        bank.it.months(7);
        Bank.same("seven months", bank.it.worth(0, 0), 10_070);
        Bank.same("cut once", bank.it.worth(2, 0), 12_345_678 + 86_419);
        Bank.same("claimed", bank.it.claim(2), 12_345_678 + 86_419);
    }

    private static void noMoreThanTheYears() {
        Bank bank = handed();
        bank.it.months(24);
        Bank.same("24 months", bank.it.worth(0, 0), 10_240);
        bank.it.months(1);
        Bank.same("25 months", bank.it.worth(0, 0), 10_240);
        Bank.same("many", bank.it.worth(0, 600), 10_240);
        Bank.same("claimed", bank.it.claim(0), 10_240);
        Bank.same("paid", bank.it.purse(0, 1), 240);
    }

    private static void greatSums() {
        Bank bank = Bank.told("land a 0 0 999 50;sleep box a 1;wait 0;");
        bank.it.open(BOX, 0, Bank.NONE, 100_000_000);
        bank.it.months(12);
        Bank.same("600 months", bank.it.worth(0, 600), 599_500_000);
        for (int i = 0; i < 5; i++) {
            bank.it.months(120);
        }
        Bank.same("claimed", bank.it.claim(0), 599_500_000);
        Bank.same("interest", bank.it.purse(0, 1), 499_500_000);
    }

    private static void refusedClaims() {
        Bank bank = handed();
        bank.it.open(BOX, 0, Bank.NONE, 50);
        bank.it.open(BOX, 0, Bank.NONE, 50);
        bank.it.close(4);
        bank.it.claim(0);
        bank.refuses("claimed", Bank.STATE, () -> bank.it.claim(0));
        bank.refuses("nameless", Bank.STATE, () -> bank.it.claim(1));
        bank.refuses("awake", Bank.STATE, () -> bank.it.claim(3));
        bank.refuses("closed", Bank.STATE, () -> bank.it.claim(4));
        bank.refuses("none", Bank.NO_SUCH, () -> bank.it.claim(5));
        bank.refuses("-1", Bank.NO_SUCH, () -> bank.it.claim(-1));
        bank.it.months(5);
        bank.refuses("written", Bank.STATE, () -> bank.it.claim(3));
    }

    private static void passing() {
        Bank bank = handed();
        bank.it.address(0, 1);
        Bank.same("holds still", bank.it.account(0, 8), 0);
        Bank.same("to b", bank.it.pass(0), 1);
        Bank.same("b holds", bank.it.account(0, 8), 1);
        Bank.same("still handed", bank.it.account(0, 4), 2);
        Bank.same("b's purse", bank.it.purse(1, 0), 10_000);
        Bank.same("b's rows", bank.it.purse(1, 2), 0);
        Bank.same("passed on to b", bank.it.purse(1, 3), 10_000);
        Bank.same("a's purse", bank.it.purse(0, 0), 12_346_078);
        Bank.same("a's rows", bank.it.purse(0, 2), 12_356_078);
        Bank.same("a's accounts", bank.it.land(0, 5), 6);
        Bank.same("b's accounts", bank.it.land(1, 5), 1);
        Bank.same("the row stays", bank.it.row(0, 2), 0);
        bank.it.address(0, 0);
        Bank.same("back to a", bank.it.pass(0), 0);
        Bank.same("passed on to a", bank.it.purse(0, 3), 10_000);
        bank.it.address(0, Bank.NONE);
        Bank.same("by its birth to b again", bank.it.pass(0), 1);
        Bank.same("passed on to b again", bank.it.purse(1, 3), 20_000);
        Bank.same("told(6)", bank.it.told(6), 3);
        Bank.same("books(5)", bank.it.books(5), 12_356_078);
    }

    private static void refusedPassing() {
        Bank bank = handed();
        bank.it.open(BOX, 0, 1, 50);
        bank.it.open(BOX, 0, 1, 50);
        bank.it.close(4);
        bank.refuses("the same land", Bank.STATE, () -> bank.it.pass(0));
        bank.it.address(2, Bank.NONE);
        bank.refuses("no land", Bank.STATE, () -> bank.it.pass(2));
        bank.refuses("awake", Bank.STATE, () -> bank.it.pass(3));
        bank.refuses("closed", Bank.STATE, () -> bank.it.pass(4));
        bank.refuses("none", Bank.NO_SUCH, () -> bank.it.pass(5));
        bank.refuses("-1", Bank.NO_SUCH, () -> bank.it.pass(-1));
        bank.it.claim(0);
        bank.it.address(0, 1);
        bank.refuses("claimed", Bank.STATE, () -> bank.it.pass(0));
        bank.it.months(5);
        bank.it.address(3, 1);
        bank.refuses("written", Bank.STATE, () -> bank.it.pass(3));
    }

    private static void namelessPassing() {
        Bank bank = handed();
        bank.it.address(1, 1);
        Bank.same("nameless to b", bank.it.pass(1), 1);
        Bank.same("stays nameless", bank.it.account(1, 10), 1);
        bank.refuses("no claim all the same", Bank.STATE, () -> bank.it.claim(1));
        Bank.same("held by b", bank.it.purse(1, 0), 400);
    }

    private static void rateOfTheHolder() {
        Bank bank = handed();
        bank.it.months(30);
        bank.it.address(0, 1);
        bank.it.pass(0);
        Bank.same("b's rate since it was handed first", bank.it.worth(0, 0), 11_500);
        bank.it.months(2);
        Bank.same("claimed of b", bank.it.claim(0), 11_600);
        Bank.same("b pays", bank.it.purse(1, 1), 1_600);
        Bank.same("a does not", bank.it.purse(0, 1), 0);
        Bank.same("b holds nothing", bank.it.purse(1, 0), 0);
        Bank.same("passed on to b", bank.it.purse(1, 3), 10_000);
    }

    private static void worth() {
        Bank bank = handed();
        bank.it.open(BOX, 0, Bank.NONE, 50);
        Bank.same("now", bank.it.worth(0, 0), 10_000);
        Bank.same("in 1", bank.it.worth(0, 1), 10_010);
        Bank.same("in 23", bank.it.worth(0, 23), 10_230);
        Bank.same("in 24", bank.it.worth(0, 24), 10_240);
        Bank.same("in 600", bank.it.worth(0, 600), 10_240);
        Bank.same("nameless", bank.it.worth(1, 0), Bank.NONE);
        Bank.same("awake", bank.it.worth(3, 600), Bank.NONE);
        bank.it.claim(0);
        Bank.same("claimed", bank.it.worth(0, 0), Bank.NONE);
        bank.refuses("no account", Bank.NO_SUCH, () -> bank.it.worth(4, -1));
        bank.refuses("-1", Bank.ARGUMENT, () -> bank.it.worth(2, -1));
        bank.refuses("601", Bank.ARGUMENT, () -> bank.it.worth(2, 601));
        bank.refuses("601 of a claimed one", Bank.ARGUMENT, () -> bank.it.worth(0, 601));
    }

    private static void purses() {
        Bank bank = handed();
        bank.refuses("land 2", Bank.NO_SUCH, () -> bank.it.purse(2, 0));
        bank.refuses("land -1", Bank.NO_SUCH, () -> bank.it.purse(-1, 7));
        bank.refuses("what 4", Bank.ARGUMENT, () -> bank.it.purse(0, 4));
        bank.refuses("what -1", Bank.ARGUMENT, () -> bank.it.purse(0, -1));
        bank.it.undo();
        Bank.same("all taken back", bank.it.purse(0, 0) + bank.it.purse(0, 2), 0);
    }
}
