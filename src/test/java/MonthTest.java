/** Promises 11 and 24, and what a month does: interest, clocks, letters, handing over, lands. */
public final class MonthTest {
    private static final int SAVINGS = 0;
    private static final int CHEQUE = 3;
    private static final int BOX = 4;

    public static void main(String[] args) {
        numbersOfMonths();
        lastMonth();
        interest();
        letters();
        waiting();
        waitingNone();
        reportMonths();
        nameless();
        withoutLand();
        landsInOrder();
        onlySomeInOrder();
        homeThatDoesNotTake();
        movedWhileWritten();
        sleepLooksBehindTheClock();
        bookRows();
        Bank.end("MonthTest");
    }

    private static Bank boxes(String more, int cents) {
        Bank bank = Bank.told("land a 0 0 0 1;sleep box a 4;" + more);
        bank.it.open(BOX, 0, Bank.NONE, cents);
        return bank;
    }

    private static void numbersOfMonths() {
        Bank bank = new Bank();
        bank.refuses("0", Bank.ARGUMENT, () -> bank.it.months(0));
        bank.refuses("-1", Bank.ARGUMENT, () -> bank.it.months(-1));
        bank.refuses("121", Bank.ARGUMENT, () -> bank.it.months(121));
        bank.refuses("most", Bank.ARGUMENT, () -> bank.it.months(Integer.MAX_VALUE));
        Bank.same("1", bank.it.months(1), 0);
        Bank.same("120", bank.it.months(120), 0);
        Bank.same("told(2)", bank.it.told(2), 121);
        Bank.same("acts", bank.it.told(9), 2);
    }

    private static void lastMonth() {
        Bank bank = Bank.told("land a 0 0 0 1;land b 11 0 0 1;sleep box a 4;sleep cheque b 600;wait 60;home b;");
        bank.it.open(CHEQUE, 0, Bank.NONE, 5);
        for (int i = 0; i < 49; i++) {
            bank.it.months(120);
        }
        bank.it.months(110);
        bank.it.open(BOX, 0, Bank.NONE, 100);
        bank.it.open(CHEQUE, 1, Bank.NONE, 100);
        Bank last = Bank.told("land a 0 0 0 1;sleep box a 4;");
        for (int i = 0; i < 49; i++) {
            last.it.months(120);
        }
        last.it.months(110);
        last.it.open(BOX, 0, Bank.NONE, 100);
        Bank.same("handed in month 6,000", last.it.soon(0), 10);
        Bank.same("cents of it", last.it.ahead(0, 120), 100);
        Bank.same("forecast up to it", last.it.rescue(1, 120, 1), 100);
        Bank.same("so it goes", last.it.months(10), 1);
        bank.refuses("11 beyond", Bank.STATE, () -> bank.it.months(11));
        bank.refuses("120 beyond", Bank.STATE, () -> bank.it.months(120));
        bank.refuses("121 is none such", Bank.ARGUMENT, () -> bank.it.months(121));
        Bank.same("not up to month 6,000", bank.it.soon(1), Bank.NONE);
        Bank.same("letters up to it", bank.it.letters(120), 1);
        Bank.same("10 more", bank.it.months(10), 0);
        Bank.same("told(2)", bank.it.told(2), 6000);
        bank.refuses("1 beyond", Bank.STATE, () -> bank.it.months(1));
        Bank.same("soon behind the last month", bank.it.soon(1), Bank.NONE);
        Bank.same("ahead", bank.it.ahead(Bank.NONE, 120), 0);
        Bank.same("letters", bank.it.letters(120), 0);
        Bank.same("rescue", bank.it.rescue(1, 120, 1), 0);
        Bank.same("handed before", bank.it.row(0, 0) % 12, 11);
    }

    private static void interest() {
        Bank bank = Bank.told("land a 0 0 0 1;pays savings 999;pays cheque 1;");
        bank.it.open(SAVINGS, 0, Bank.NONE, 100_000_000);
        bank.it.open(SAVINGS, 0, Bank.NONE, 99_500_000);
        bank.it.open(SAVINGS, 0, Bank.NONE, 120);
        bank.it.open(SAVINGS, 0, Bank.NONE, 121);
        bank.it.open(CHEQUE, 0, Bank.NONE, 120_000);
        bank.it.open(CHEQUE, 0, Bank.NONE, 119_999);
        bank.it.open(BOX, 0, Bank.NONE, 100_000_000);
        bank.it.months(1);
        int[] want = {100_000_000, 100_000_000, 120, 122, 120_001, 119_999, 100_000_000};
        for (int i = 0; i < want.length; i++) {
            Bank.same("cents of " + i, bank.it.account(i, 3), want[i]);
        }
        Bank.same("credited", bank.it.books(1), 500_002);
        bank.it.months(120);
        Bank.same("cheque", bank.it.account(4, 3), 120_121);
        Bank.same("cheque that pays nothing yet", bank.it.account(5, 3), 119_999);
    }

    private static void letters() {
        Bank bank = boxes("letter 25;", 60);
        bank.it.months(3);
        Bank.same("awake", bank.it.account(0, 4), 0);
        Bank.same("no letter", bank.it.account(0, 9), Bank.NONE);
        bank.it.months(1);
        Bank.same("written", bank.it.account(0, 4), 1);
        Bank.same("one letter", bank.it.account(0, 7), 1);
        Bank.same("its month", bank.it.account(0, 9), 4);
        Bank.same("its cents", bank.it.account(0, 3), 35);
        Bank.same("told(7)", bank.it.told(7), 1);
        bank.it.months(3);
        Bank.same("but one", bank.it.account(0, 7), 1);
        for (int i = 2; i < 4; i++) {
            bank.it.contact(0);
            bank.it.months(4);
            Bank.same("letter", bank.it.account(0, 7), i);
        }
        Bank.same("as far as there are", bank.it.account(0, 3), 0);
        Bank.same("letter cents", bank.it.books(3), 60);
        Bank.same("told(7)", bank.it.told(7), 3);
    }

    private static void waiting() {
        Bank bank = boxes("wait 8;", 60);
        Bank.same("months 1 to 11", bank.it.months(11), 0);
        Bank.same("written", bank.it.account(0, 4), 1);
        Bank.same("month 12: eight behind month 4", bank.it.months(1), 1);
        Bank nine = boxes("wait 9;", 60);
        Bank.same("month 12: not nine behind", nine.it.months(23), 0);
        Bank.same("month 24", nine.it.months(1), 1);
        Bank untold = Bank.told("land a 0 0 0 1;sleep box a 9;sleep cheque a 10;");
        untold.it.open(BOX, 0, Bank.NONE, 60);
        untold.it.open(CHEQUE, 0, Bank.NONE, 60);
        Bank.same("without wait it is three", untold.it.months(12), 1);
        Bank.same("three", untold.it.account(0, 4), 2);
        Bank.same("two", untold.it.account(1, 4), 1);
    }

    private static void waitingNone() {
        Bank bank = Bank.told("land a 4 0 0 1;land b 5 0 0 1;sleep box a 4;sleep box b 4;wait 0;");
        bank.it.open(BOX, 0, Bank.NONE, 60);
        bank.it.open(BOX, 1, Bank.NONE, 60);
        Bank.same("not in the month of its letter", bank.it.months(4), 0);
        Bank.same("in the next one", bank.it.months(1), 1);
        Bank.same("its land", bank.it.row(0, 2), 1);
        Bank.same("a year behind the letter", bank.it.months(10), 0);
        Bank.same("a year behind the letter, so", bank.it.months(1), 1);
        Bank zero = Bank.told("land a 1 0 0 1;sleep box a 0;wait 0;");
        zero.it.open(BOX, 0, Bank.NONE, 60);
        Bank.same("sleep 0", zero.it.months(12), 0);
        Bank.same("written at once", zero.it.account(0, 9), 1);
        Bank.same("handed in month 13", zero.it.months(1), 1);
    }

    private static void reportMonths() {
        for (int month = 0; month < 12; month++) {
            Bank bank = Bank.told("land a " + month + " 0 0 1;sleep box a 12;wait 0;");
            bank.it.open(BOX, 0, Bank.NONE, 60);
            Bank.same("report " + month, bank.it.soon(0), month == 0 ? 24 : 12 + month);
            bank.it.months(24);
            Bank.same("row of report " + month, bank.it.row(0, 0), month == 0 ? 24 : 12 + month);
        }
    }

    private static void nameless() {
        Bank bank = Bank.told("land a 0 500 0 1;sleep savings a 4;pays savings 600;letter 10;");
        bank.it.open(SAVINGS, 0, Bank.NONE, 500);
        bank.it.open(SAVINGS, 0, Bank.NONE, 487);
        bank.it.open(SAVINGS, 0, Bank.NONE, 486);
        bank.it.open(SAVINGS, 0, Bank.NONE, 485);
        Bank.same("all handed", bank.it.months(12), 4);
        int[] cents = {514, 501, 500, 499};
        for (int i = 0; i < 4; i++) {
            Bank.same("cents behind the letter " + i, bank.it.account(i, 3), cents[i]);
            Bank.same("nameless " + i, bank.it.account(i, 10), cents[i] < 500 ? 1 : 0);
            Bank.same("in the row " + i, bank.it.row(i, 4), cents[i] < 500 ? 1 : 0);
        }
        Bank edge = Bank.told("land a 0 500 0 1;sleep box a 4;");
        edge.it.open(BOX, 0, Bank.NONE, 500);
        edge.it.open(BOX, 0, Bank.NONE, 499);
        edge.it.open(BOX, 0, Bank.NONE, 0);
        Bank.same("handed", edge.it.months(12), 3);
        Bank.same("500", edge.it.account(0, 10), 0);
        Bank.same("499", edge.it.account(1, 10), 1);
        Bank.same("0", edge.it.account(2, 10), 1);
        Bank.same("CENTS handed all the same", edge.it.purse(0, 0), 999);
    }

    private static void withoutLand() {
        Bank bank = Bank.told("land a 0 0 0 1;sleep box a 4;order address;pays box 600;");
        bank.it.open(BOX, Bank.NONE, 0, 2000);
        bank.it.open(BOX, 0, Bank.NONE, 2000);
        bank.it.months(5);
        bank.it.address(1, Bank.NONE);
        Bank.same("none is handed", bank.it.months(31), 0);
        Bank.same("awake", bank.it.account(0, 4), 0);
        Bank.same("written", bank.it.account(1, 4), 1);
        Bank.same("age goes on", bank.it.account(1, 5), 36);
        Bank.same("since goes on", bank.it.account(0, 6), 36);
        Bank.same("interest goes on", bank.it.account(0, 3), bank.it.account(1, 3));
        Bank.holds("interest", bank.it.account(0, 3) >= 2360);
        bank.it.address(0, 0);
        bank.it.address(1, 0);
        bank.it.months(1);
        Bank.same("a letter when the address is found", bank.it.account(0, 9), 37);
        Bank.same("handed in the report month", bank.it.months(11), 2);
    }

    private static void landsInOrder() {
        String lands = "land a 0 0 0 1;land b 0 0 0 1;land c 0 0 0 1;sleep box a 4;sleep box b 5;sleep box c 6;"
                + "sleep wages b 7;home c;";
        String[] orders = {"", "order address birth home;", "order birth address home;", "order home address;",
            "order home birth;", "order birth;"};
        int[] want = {0, 0, 1, 2, 2, 1};
        int[] lost = {1, 1, 1, 2, 2, 1};
        int[] nowhere = {2, 2, 2, 2, 2, Bank.NONE};
        for (int i = 0; i < orders.length; i++) {
            Bank bank = Bank.told(lands + orders[i]);
            bank.it.open(BOX, 0, 1, 5);
            bank.it.open(BOX, Bank.NONE, 1, 5);
            bank.it.open(BOX, Bank.NONE, Bank.NONE, 5);
            Bank.same("land, " + orders[i], bank.it.account(0, 8), want[i]);
            Bank.same("lost, " + orders[i], bank.it.account(1, 8), lost[i]);
            Bank.same("nowhere, " + orders[i], bank.it.account(2, 8), nowhere[i]);
            Bank.same("sleep, " + orders[i], bank.it.sleep(0), 4 + want[i]);
        }
    }

    private static void onlySomeInOrder() {
        Bank bank = Bank.told("land a 0 0 0 1;land b 0 0 0 1;sleep box a 4;order address;home a;");
        bank.it.open(BOX, Bank.NONE, 0, 5);
        bank.it.open(BOX, 1, 0, 5);
        Bank.same("birth is not asked", bank.it.account(0, 8), Bank.NONE);
        Bank.same("home is not asked", bank.it.account(1, 8), Bank.NONE);
    }

    private static void homeThatDoesNotTake() {
        Bank bank = Bank.told("land a 0 0 0 1;land b 0 0 0 1;sleep box b 4;sleep wages a 3;");
        bank.it.open(BOX, 0, 0, 5);
        bank.it.open(BOX, 0, 1, 5);
        bank.it.open(1, 1, Bank.NONE, 5);
        bank.it.open(1, 1, 1, 5);
        int[] want = {Bank.NONE, 1, 0, 0};
        for (int i = 0; i < want.length; i++) {
            Bank.same("land of " + i, bank.it.account(i, 8), want[i]);
        }
        Bank.same("kinds of a", bank.it.land(0, 4), 2);
        Bank.same("kinds of b", bank.it.land(1, 4), 16);
    }

    private static void movedWhileWritten() {
        Bank bank = Bank.told("land a 0 0 0 1;land b 6 0 0 1;sleep box a 4;sleep box b 600;wait 0;");
        bank.it.open(BOX, 0, Bank.NONE, 50);
        bank.it.months(4);
        bank.it.address(0, 1);
        Bank.same("the new land's sleep", bank.it.sleep(0), 600);
        Bank.same("still written, so handed in b's month", bank.it.months(2), 1);
        Bank.same("to b", bank.it.row(0, 2), 1);
    }

    private static void sleepLooksBehindTheClock() {
        Bank bank = Bank.told("land a 0 0 0 1;sleep box a if cents less 101 then 600 else since;pays box 999;"
                + "sleep wages a if age less 3 then 600 else 0;sleep cheque a 2*letters;");
        bank.it.open(1, 0, Bank.NONE, 50);
        bank.it.open(CHEQUE, 0, Bank.NONE, 50);
        bank.it.months(1);
        Bank.same("no letters yet: at once", bank.it.account(1, 9), 1);
        bank.it.contact(1);
        bank.it.months(1);
        Bank.same("one letter: not behind one month", bank.it.account(1, 7), 1);
        bank.it.months(1);
        Bank.same("by the age that is next", bank.it.account(0, 9), 3);
        Bank.same("one letter: behind two months", bank.it.account(1, 9), 3);
        Bank interest = Bank.told("land a 0 0 0 1;sleep wages a if cents less 121 then 600 else 0;pays wages 999;");
        interest.it.open(1, 0, Bank.NONE, 120);
        interest.it.open(1, 0, Bank.NONE, 121);
        interest.it.months(1);
        Bank.same("120 stay", interest.it.account(0, 4), 0);
        Bank.same("121 go to sleep", interest.it.account(1, 4), 1);
        Bank credited = Bank.told("land a 0 0 0 1;sleep wages a if cents less 202 then 600 else 0;pays wages 999;");
        credited.it.open(1, 0, Bank.NONE, 201);
        credited.it.months(1);
        Bank.same("by the CENTS with the interest", credited.it.account(0, 4), 1);
    }

    private static void bookRows() {
        Bank bank = Bank.told("land a 0 100 0 1;land b 6 0 0 1;sleep box a 4;sleep cheque b 1;sleep box b 1;");
        bank.it.open(BOX, 0, Bank.NONE, 700);
        bank.it.open(CHEQUE, 1, Bank.NONE, 800);
        bank.it.open(BOX, 0, Bank.NONE, 90);
        bank.it.open(BOX, 1, Bank.NONE, 1000);
        Bank.same("four handed", bank.it.months(120), 4);
        int[][] want = {{6, 1, 1, 800, 0}, {6, 3, 1, 1000, 0}, {12, 0, 0, 700, 0}, {12, 2, 0, 90, 1}};
        for (int k = 0; k < 4; k++) {
            for (int what = 0; what < 5; what++) {
                Bank.same("row(" + k + ", " + what + ")", bank.it.row(k, what), want[k][what]);
            }
        }
        bank.it.address(0, 1);
        bank.it.pass(0);
        bank.it.claim(0);
        bank.it.claim(1);
        for (int k = 0; k < 4; k++) {
            for (int what = 0; what < 5; what++) {
                Bank.same("later row(" + k + ", " + what + ")", bank.it.row(k, what), want[k][what]);
            }
        }
        Bank.same("told(6)", bank.it.told(6), 4);
        bank.refuses("row 4", Bank.NO_SUCH, () -> bank.it.row(4, 0));
        bank.refuses("row -1", Bank.NO_SUCH, () -> bank.it.row(-1, 9));
        bank.refuses("what 5", Bank.ARGUMENT, () -> bank.it.row(0, 5));
        bank.refuses("what -1", Bank.ARGUMENT, () -> bank.it.row(0, -1));
    }
}
