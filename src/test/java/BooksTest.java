/** Promises 28 to 30: the books, the print and the counts of refusals. */
public final class BooksTest {
    private static final int SAVINGS = 0;
    private static final int BOX = 4;

    public static void main(String[] args) {
        eachSumInOnePlace();
        balance();
        printing();
        statuses();
        Bank.end("BooksTest");
    }

    private static Bank bank() {
        return Bank.told("land a 0 0 600 5;land b 6 0 0 1;sleep box a 4;sleep savings b 4;pays savings 600;letter 25;");
    }

    private static void books(Bank bank, String when, long... want) {
        for (int what = 0; what < want.length; what++) {
            Bank.same(when + ": books(" + what + ")", bank.it.books(what), want[what]);
        }
        long come = bank.it.books(0) + bank.it.books(1);
        long gone = bank.it.books(2) + bank.it.books(3) + bank.it.books(4) + bank.it.books(5) + bank.it.books(6);
        Bank.same(when + ": each sum in one place", come, gone);
    }

    private static void eachSumInOnePlace() {
        Bank bank = bank();
        books(bank, "new", 0, 0, 0, 0, 0, 0, 0);
        bank.it.open(BOX, 0, Bank.NONE, 1000);
        bank.it.open(SAVINGS, 1, Bank.NONE, 2000);
        books(bank, "opened", 3000, 0, 0, 0, 3000, 0, 0);
        bank.it.deposit(0, 300);
        bank.it.draw(1, 500);
        books(bank, "brought and taken", 3300, 0, 500, 0, 2800, 0, 0);
        bank.it.months(1);
        books(bank, "a month", 3300, 7, 500, 0, 2807, 0, 0);
        bank.it.months(3);
        books(bank, "letters", 3300, 28, 500, 50, 2778, 0, 0);
        bank.it.months(8);
        books(bank, "a handed over", 3300, 84, 500, 50, 1559, 1275, 0);
        bank.it.months(1);
        bank.it.claim(0);
        books(bank, "claimed", 3300, 91, 500, 50, 1566, 0, 1275);
        Bank.same("besides", bank.it.purse(0, 1), 6);
        bank.it.close(1);
        books(bank, "closed", 3300, 91, 2066, 50, 0, 0, 1275);
        bank.refuses("books(7)", Bank.ARGUMENT, () -> bank.it.books(7));
        bank.refuses("books(-1)", Bank.ARGUMENT, () -> bank.it.books(-1));
    }

    private static void balance() {
        Bank bank = Bank.told("land a 0 0 600 5;land b 6 0 0 1;sleep box a 4;sleep box b 4;pays box 999;letter 999;");
        bank.it.open(BOX, 0, 1, 100_000_000);
        bank.it.open(BOX, 0, 1, 99_999_999);
        bank.it.open(BOX, 0, 1, 500);
        bank.it.open(BOX, 0, 1, 0);
        for (int i = 0; i < 9; i++) {
            bank.it.months(3);
            books(bank, "month " + 3 * i);
            if (i == 1) {
                bank.it.contact(1);
            }
            if (i == 4) {
                bank.it.address(0, 1);
                bank.it.pass(0);
                books(bank, "passed on");
                bank.it.claim(0);
            }
        }
    }

    private static void printing() {
        Bank bank = bank();
        bank.it.open(BOX, 0, Bank.NONE, 1000);
        Bank.same("one", bank.it.print(), 1000 * 961L);
        bank.it.months(3);
        Bank.same("since", bank.it.print(), 1000 * 961L + 3);
        bank.it.months(1);
        Bank.same("written", bank.it.print(), 975 * 961L + 31 + 4);
        bank.it.open(SAVINGS, 1, Bank.NONE, 7);
        long first = 975 * 961L + 31 + 4;
        Bank.same("two", bank.it.print(), ((first * 31 + 7) * 31) * 31);
        bank.it.months(8);
        first = 975 * 961L + 2 * 31 + 12;
        Bank.same("handed", bank.it.print(), ((first * 31 + 0) * 31 + 1) * 31 + 8);
        bank.it.claim(0);
        first = 3 * 31 + 12;
        Bank.same("claimed", bank.it.print(), ((first * 31 + 0) * 31 + 1) * 31 + 8);
        bank.it.close(1);
        Bank.same("closed", bank.it.print(), (first * 961 + 4) * 31 + 8);
        Bank twelve = bank();
        long sum = 0;
        for (int i = 0; i < 12; i++) {
            twelve.it.open(BOX, 0, Bank.NONE, 100_000_000 - i);
            sum = ((sum * 31 + 100_000_000 - i) * 31) * 31;
        }
        Bank.same("wraps around", twelve.it.print(), sum);
    }

    private static void statuses() {
        Bank bank = bank();
        for (int i = 0; i < 3; i++) {
            Bank.same("new", bank.it.status(i), 0);
        }
        int[] none = {3, -1, 4, Integer.MAX_VALUE, Integer.MIN_VALUE};
        for (int what : none) {
            Bank.same("status(" + what + ")", bank.it.status(what), Bank.NONE);
        }
        bank.it.open(BOX, 0, Bank.NONE, 5);
        bank.refuses("no such", Bank.NO_SUCH, () -> bank.it.row(0, 0));
        bank.refuses("argument", Bank.ARGUMENT, () -> bank.it.months(0));
        bank.refuses("state", Bank.STATE, () -> bank.it.claim(0));
        bank.refuses("state", Bank.STATE, () -> bank.it.pass(0));
        bank.it.undo();
        bank.it.undo();
        bank.tell("x");
        bank.it.open(0, Bank.NONE, Bank.NONE, 0);
        Bank.same("no such", bank.it.status(0), 1);
        Bank.same("argument", bank.it.status(1), 1);
        Bank.same("state", bank.it.status(2), 2);
    }
}
