/** Promises 5 to 10, 20 and 21: what owners do with accounts, and what an account tells of itself. */
public final class AccountTest {
    private static final String TWO_LANDS = "land a 0 0 0 1;land b 6 500 100 50;sleep box a 4;sleep savings a 3;"
            + "sleep savings b 5;letter 30;wait 2;home b;pays savings 600;";
    private static final int SAVINGS = 0;
    private static final int BOX = 4;

    public static void main(String[] args) {
        opening();
        refusedOpening();
        twelve();
        contacts();
        deposits();
        draws();
        addresses();
        closing();
        statesThatRefuse();
        tellsOfItself();
        refusedQuestions();
        sleeps();
        sleepOfEachExpression();
        Bank.end("AccountTest");
    }

    private static void tells(Bank bank, int account, int... want) {
        for (int what = 0; what < want.length; what++) {
            Bank.same("account(" + account + ", " + what + ")", bank.it.account(account, what), want[what]);
        }
    }

    private static void opening() {
        Bank bank = Bank.told(TWO_LANDS);
        Bank.same("first", bank.it.open(SAVINGS, 0, 1, 100_000_000), 0);
        Bank.same("second", bank.it.open(BOX, Bank.NONE, Bank.NONE, 0), 1);
        tells(bank, 0, SAVINGS, 0, 1, 100_000_000, 0, 0, 0, 0, 0, Bank.NONE, 0);
        tells(bank, 1, BOX, Bank.NONE, Bank.NONE, 0, 0, 0, 0, 0, Bank.NONE, Bank.NONE, 0);
        Bank.same("told(1)", bank.it.told(1), 2);
        Bank.same("brought in", bank.it.books(0), 100_000_000);
    }

    private static void refusedOpening() {
        Bank bank = Bank.told(TWO_LANDS);
        bank.refuses("address 2", Bank.NO_SUCH, () -> bank.it.open(0, 2, 0, 0));
        bank.refuses("address -2", Bank.NO_SUCH, () -> bank.it.open(0, -2, 0, 0));
        bank.refuses("birth 2", Bank.NO_SUCH, () -> bank.it.open(0, 0, 2, 0));
        bank.refuses("birth -2", Bank.NO_SUCH, () -> bank.it.open(0, 0, -2, 0));
        bank.refuses("land ahead of kind", Bank.NO_SUCH, () -> bank.it.open(5, 0, 2, -1));
        bank.refuses("kind 5", Bank.ARGUMENT, () -> bank.it.open(5, 0, 0, 0));
        bank.refuses("kind -1", Bank.ARGUMENT, () -> bank.it.open(-1, 0, 0, 0));
        bank.refuses("cents -1", Bank.ARGUMENT, () -> bank.it.open(0, 0, 0, -1));
        bank.refuses("cents above", Bank.ARGUMENT, () -> bank.it.open(0, 0, 0, 100_000_001));
    }

    private static void twelve() {
        Bank bank = Bank.told(TWO_LANDS);
        for (int i = 0; i < 12; i++) {
            Bank.same("open " + i, bank.it.open(i % 5, i % 3 - 1, Bank.NONE, i), i);
        }
        bank.refuses("thirteenth", Bank.STATE, () -> bank.it.open(0, 0, 0, 0));
        bank.refuses("thirteenth, no land", Bank.NO_SUCH, () -> bank.it.open(0, 7, 0, 0));
        bank.refuses("thirteenth, no kind", Bank.ARGUMENT, () -> bank.it.open(7, 0, 0, 0));
        bank.it.close(3);
        bank.refuses("thirteenth, one closed", Bank.STATE, () -> bank.it.open(0, 0, 0, 0));
        bank.it.undo();
        bank.it.undo();
        Bank.same("twelfth again", bank.it.open(1, 0, 0, 9), 11);
    }

    private static void contacts() {
        Bank bank = Bank.told(TWO_LANDS);
        bank.it.open(BOX, 0, Bank.NONE, 1000);
        Bank.same("at once", bank.it.contact(0), 0);
        bank.it.months(3);
        Bank.same("behind three", bank.it.contact(0), 3);
        tells(bank, 0, BOX, 0, Bank.NONE, 1000, 0, 3, 0, 0);
        bank.it.months(4);
        tells(bank, 0, BOX, 0, Bank.NONE, 970, 1, 7, 4, 1, 0, 7);
        bank.it.months(1);
        Bank.same("of a written one", bank.it.contact(0), 5);
        tells(bank, 0, BOX, 0, Bank.NONE, 970, 0, 8, 0, 1, 0, 7);
        bank.it.months(4);
        tells(bank, 0, BOX, 0, Bank.NONE, 940, 1, 12, 4, 2, 0, 12);
    }

    private static void deposits() {
        Bank bank = Bank.told(TWO_LANDS);
        bank.it.open(BOX, 0, Bank.NONE, 99_000_000);
        bank.it.open(BOX, 0, Bank.NONE, 0);
        bank.it.months(5);
        Bank.same("least", bank.it.deposit(1, 1), 1);
        tells(bank, 1, BOX, 0, Bank.NONE, 1, 0, 5, 0, 1);
        Bank.same("most", bank.it.deposit(1, 1_000_000), 1_000_001);
        Bank.same("brought in", bank.it.books(0), 100_000_001);
        bank.refuses("0", Bank.ARGUMENT, () -> bank.it.deposit(1, 0));
        bank.refuses("-1", Bank.ARGUMENT, () -> bank.it.deposit(1, -1));
        bank.refuses("above", Bank.ARGUMENT, () -> bank.it.deposit(1, 1_000_001));
        bank.refuses("no account", Bank.NO_SUCH, () -> bank.it.deposit(2, 0));
        bank.refuses("no account -1", Bank.NO_SUCH, () -> bank.it.deposit(-1, 1));
        Bank.same("up to the limit", bank.it.deposit(0, 1_000_000), 99_999_970);
        Bank.same("the limit", bank.it.deposit(0, 30), 100_000_000);
        bank.refuses("above the limit", Bank.STATE, () -> bank.it.deposit(0, 1));
        bank.refuses("the number ahead of the limit", Bank.ARGUMENT, () -> bank.it.deposit(0, 1_000_001));
    }

    private static void draws() {
        Bank bank = Bank.told(TWO_LANDS);
        bank.it.open(BOX, 0, Bank.NONE, 2_000_030);
        bank.it.months(5);
        Bank.same("most", bank.it.draw(0, 1_000_000), 1_000_000);
        tells(bank, 0, BOX, 0, Bank.NONE, 1_000_000, 0, 5, 0, 1);
        Bank.same("least", bank.it.draw(0, 1), 999_999);
        bank.refuses("more than there is", Bank.STATE, () -> bank.it.draw(0, 1_000_000));
        Bank.same("all", bank.it.draw(0, 999_999), 0);
        Bank.same("taken out", bank.it.books(2), 2_000_000);
        bank.refuses("of nothing", Bank.STATE, () -> bank.it.draw(0, 1));
        bank.refuses("0", Bank.ARGUMENT, () -> bank.it.draw(0, 0));
        bank.refuses("-1", Bank.ARGUMENT, () -> bank.it.draw(0, -1));
        bank.refuses("above", Bank.ARGUMENT, () -> bank.it.draw(0, 1_000_001));
        bank.refuses("no account", Bank.NO_SUCH, () -> bank.it.draw(1, 0));
    }

    private static void addresses() {
        Bank bank = Bank.told(TWO_LANDS);
        bank.it.open(SAVINGS, Bank.NONE, Bank.NONE, 1000);
        bank.it.months(2);
        Bank.same("lost so far", bank.it.address(0, 0), Bank.NONE);
        tells(bank, 0, SAVINGS, 0, Bank.NONE, 1010, 0, 2, 2, 0, 0);
        Bank.same("moves", bank.it.address(0, 1), 0);
        Bank.same("lands with it", bank.it.account(0, 8), 1);
        Bank.same("the same", bank.it.address(0, 1), 1);
        Bank.same("lost", bank.it.address(0, Bank.NONE), 1);
        Bank.same("acts", bank.it.told(9), 7);
        bank.refuses("no land 2", Bank.NO_SUCH, () -> bank.it.address(0, 2));
        bank.refuses("no land -2", Bank.NO_SUCH, () -> bank.it.address(0, -2));
        bank.refuses("no account", Bank.NO_SUCH, () -> bank.it.address(1, 0));
        bank.it.months(3);
        Bank.same("written", bank.it.account(0, 4), 1);
        Bank.same("of a written one", bank.it.address(0, 0), Bank.NONE);
        Bank.same("still written", bank.it.account(0, 4), 1);
        bank.it.close(0);
        Bank.same("of a closed one", bank.it.address(0, 1), 0);
        Bank.same("closed with an address", bank.it.account(0, 1), 1);
    }

    private static void closing() {
        Bank bank = Bank.told(TWO_LANDS);
        bank.it.open(SAVINGS, 0, 1, 1000);
        bank.it.open(SAVINGS, 0, 1, 0);
        bank.it.months(3);
        Bank.same("paid out", bank.it.close(0), 985);
        tells(bank, 0, SAVINGS, 0, 1, 0, 4, 3, 3, 1, Bank.NONE, 3, 0);
        Bank.same("books(2)", bank.it.books(2), 985);
        Bank.same("nothing paid out", bank.it.close(1), 0);
        bank.it.months(5);
        tells(bank, 0, SAVINGS, 0, 1, 0, 4, 3, 3, 1, Bank.NONE, 3, 0);
        bank.refuses("no account", Bank.NO_SUCH, () -> bank.it.close(2));
    }

    private static void statesThatRefuse() {
        Bank bank = Bank.told("land a 0 50 0 1;sleep box a 1;wait 0;");
        bank.it.open(BOX, 0, Bank.NONE, 1000);
        bank.it.open(BOX, 0, Bank.NONE, 1000);
        bank.it.open(BOX, 0, Bank.NONE, 10);
        bank.it.open(BOX, 0, Bank.NONE, 1000);
        bank.it.close(0);
        bank.it.months(12);
        bank.it.claim(1);
        int[] states = {4, 3, 2, 2};
        for (int i = 0; i < 4; i++) {
            int account = i;
            Bank.same("state", bank.it.account(i, 4), states[i]);
            bank.refuses("contact", Bank.STATE, () -> bank.it.contact(account));
            bank.refuses("deposit", Bank.STATE, () -> bank.it.deposit(account, 1));
            bank.refuses("deposit 0", Bank.ARGUMENT, () -> bank.it.deposit(account, 0));
            bank.refuses("draw", Bank.STATE, () -> bank.it.draw(account, 1));
            bank.refuses("draw 0", Bank.ARGUMENT, () -> bank.it.draw(account, 0));
            bank.refuses("close", Bank.STATE, () -> bank.it.close(account));
            Bank.same("sleep", bank.it.sleep(account), Bank.NONE);
            Bank.same("soon", bank.it.soon(account), Bank.NONE);
        }
        bank.refuses("contact 4", Bank.NO_SUCH, () -> bank.it.contact(4));
        bank.refuses("contact -1", Bank.NO_SUCH, () -> bank.it.contact(-1));
    }

    private static void tellsOfItself() {
        Bank bank = Bank.told(TWO_LANDS);
        bank.it.open(BOX, 0, 1, 400);
        bank.it.open(SAVINGS, Bank.NONE, Bank.NONE, 400);
        bank.it.open(BOX, 1, Bank.NONE, 400);
        bank.it.months(12);
        tells(bank, 0, BOX, 0, 1, 370, 2, 12, 12, 1, 0, 4, 0);
        tells(bank, 1, SAVINGS, Bank.NONE, Bank.NONE, 387, 1, 12, 12, 1, 1, 5, 0);
        tells(bank, 2, BOX, 1, Bank.NONE, 400, 0, 12, 12, 0, Bank.NONE, Bank.NONE, 0);
        bank.it.months(6);
        tells(bank, 0, BOX, 0, 1, 370, 2, 12, 12, 1, 0, 4, 0);
        tells(bank, 1, SAVINGS, Bank.NONE, Bank.NONE, 393, 2, 18, 18, 1, 1, 5, 1);
        tells(bank, 2, BOX, 1, Bank.NONE, 400, 0, 18, 18, 0, Bank.NONE, Bank.NONE, 0);
        bank.it.claim(0);
        tells(bank, 0, BOX, 0, 1, 0, 3, 12, 12, 1, Bank.NONE, 4, 0);
    }

    private static void refusedQuestions() {
        Bank bank = Bank.told(TWO_LANDS);
        bank.it.open(BOX, 0, 1, 400);
        bank.refuses("account 1", Bank.NO_SUCH, () -> bank.it.account(1, 0));
        bank.refuses("account -1", Bank.NO_SUCH, () -> bank.it.account(-1, 99));
        bank.refuses("what 11", Bank.ARGUMENT, () -> bank.it.account(0, 11));
        bank.refuses("what -1", Bank.ARGUMENT, () -> bank.it.account(0, -1));
        bank.refuses("sleep 1", Bank.NO_SUCH, () -> bank.it.sleep(1));
        bank.refuses("sleep -1", Bank.NO_SUCH, () -> bank.it.sleep(-1));
    }

    private static void sleeps() {
        Bank bank = Bank.told(TWO_LANDS);
        bank.it.open(SAVINGS, 0, 1, 0);
        bank.it.open(SAVINGS, Bank.NONE, 0, 0);
        bank.it.open(SAVINGS, Bank.NONE, Bank.NONE, 0);
        bank.it.open(BOX, 1, Bank.NONE, 0);
        bank.it.open(1, 0, 1, 0);
        int[] want = {3, 3, 5, Bank.NONE, Bank.NONE};
        for (int i = 0; i < want.length; i++) {
            Bank.same("sleep(" + i + ")", bank.it.sleep(i), want[i]);
        }
        bank.it.months(5);
        Bank.same("of a written one", bank.it.sleep(0), 3);
        bank.it.close(0);
        Bank.same("of a closed one", bank.it.sleep(0), Bank.NONE);
    }

    /** Of an account of 1,234 cents, of age 2, since 0, with one letter. */
    private static void sleepOf(String expression, int want) {
        Bank bank = Bank.told("land a 0 0 0 1;land b 1 0 0 1;sleep box a 1;sleep box b " + expression + ";letter 6;");
        bank.it.open(BOX, 0, Bank.NONE, 1240);
        bank.it.months(2);
        bank.it.contact(0);
        bank.it.address(0, 1);
        Bank.same("age", bank.it.account(0, 5), 2);
        Bank.same("since", bank.it.account(0, 6), 0);
        Bank.same("cents", bank.it.account(0, 3), 1234);
        Bank.same("letters", bank.it.account(0, 7), 1);
        Bank.same("sleep by " + expression, bank.it.sleep(0), want);
    }

    private static void sleepOfEachExpression() {
        sleepOf("12", 12);
        sleepOf("600", 600);
        sleepOf("601", 600);
        sleepOf("999999", 600);
        sleepOf("0", 0);
        sleepOf("0-1", 0);
        sleepOf("cents/10", 123);
        sleepOf("age", 2);
        sleepOf("since", 0);
        sleepOf("letters", 1);
        sleepOf("1+2*3", 7);
        sleepOf("(1+2)*3", 9);
        sleepOf("10-2-3", 5);
        sleepOf("10-(2-3)", 11);
        sleepOf("100/7/2", 7);
        sleepOf("100/7*7", 98);
        sleepOf("2*3+4*5-6/4", 25);
        sleepOf("1-2+3*4/5*6-7", 4);
        sleepOf("10+(0-7)/2", 6);
        sleepOf("10+7/(0-2)", 6);
        sleepOf("10+(0-7)/(0-2)", 13);
        sleepOf("10+(0-8)/2", 6);
        sleepOf("7/0", 0);
        sleepOf("9+7/(3-3)", 9);
        sleepOf("min(7,8)", 7);
        sleepOf("min(8,7)", 7);
        sleepOf("min(1+1,2*3)+min(9,4)", 6);
        sleepOf("if 1 less 2 then 3 else 4", 3);
        sleepOf("if 2 less 2 then 3 else 4", 4);
        sleepOf("if 3 less 2 then 3 else 4", 4);
        sleepOf("if 1 less 2 then 3 else 4 + 5", 8);
        sleepOf("2 * if 2 less 1 then 3 else 4 * 5", 40);
        sleepOf("if 1 less 2 then if 2 less 1 then 3 else 4 else 5", 4);
        sleepOf("if if 1 less 2 then 3 else 4 less 4 then 5 else 6", 5);
        sleepOf("if 1 less 2 then 3 else (1/0)", 3);
        sleepOf("if 1 less 2 then 3 else 1/0", 0);
        sleepOf("999999*999999/999999-999500", 499);
        sleepOf("999999*999999*999999/100000/100000", 100);
        sleepOf("(0-999999)*999999*999999/100000/100000+150", 50);
        sleepOf("(0-999999)*(0-999999)*999999/100000/100000", 100);
        sleepOf("999999*(0-999999)*999999/100000/100000+150", 50);
        sleepOf("999999*999999+999999*999999-999999*999999-999999", 600);
        sleepOf("(999999*999999+999999*999999-999999*999999)/20000", 99);
        sleepOf("100-(0-999999*999999-999999*999999+999999*999999)/20000-200", 0);
        sleepOf("(999999*999999*2-999999*999999)/20000", 99);
        sleepOf("(0-999999*999999*2+999999*999999)/20000+200", 100);
        sleepOf("0*999999+(0-1)*0+5", 5);
        sleepOf("999999*999999*999999*999999*999999*999999*0+1", 1);
        sleepOf("if (0-1) less 0 then 2 else 3", 2);
    }
}
