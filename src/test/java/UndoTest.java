/** Promise 14: acts taken back, the latest first, of the latest eight. */
public final class UndoTest {
    private static final String TEXT = "land a 0 50 600 2;land b 6 0 0 1;sleep box a 2;sleep box b 2;letter 5;wait 1;"
            + "pays box 300;";
    private static final int BOX = 4;

    public static void main(String[] args) {
        nothingToTakeBack();
        eachActOfOwners();
        eachActBehindHandingOver();
        eachText();
        asMuchAsEight();
        newActsBehindUndo();
        undoneForGood();
        textIsTakenBack();
        askingIsNoAct();
        Bank.end("UndoTest");
    }

    private static void nothingToTakeBack() {
        Bank bank = new Bank();
        Bank.same("new", bank.it.undo(), Bank.NONE);
        bank.it.months(1);
        Bank.same("one", bank.it.undo(), 0);
        Bank.same("none behind it", bank.it.undo(), Bank.NONE);
        Bank.same("month", bank.it.told(2), 0);
    }

    private static Bank three() {
        Bank bank = Bank.told(TEXT);
        for (int account = 0; account < 3; account++) {
            bank.it.open(BOX, 0, 1, account == 1 ? 40 : 5000);
        }
        return bank;
    }

    private static void eachActOfOwners() {
        Bank bank = three();
        takesBack(bank, "open", () -> bank.it.open(BOX, 0, 0, 999));
        takesBack(bank, "months", () -> bank.it.months(1));
        bank.it.months(3);
        takesBack(bank, "contact", () -> bank.it.contact(0));
        takesBack(bank, "deposit", () -> bank.it.deposit(0, 55));
        takesBack(bank, "draw", () -> bank.it.draw(0, 55));
        takesBack(bank, "address", () -> bank.it.address(0, 1));
        takesBack(bank, "address, the same", () -> bank.it.address(0, 0));
        takesBack(bank, "close", () -> bank.it.close(0));
    }

    private static void eachActBehindHandingOver() {
        Bank bank = three();
        bank.it.months(3);
        takesBack(bank, "months with letters and rows", () -> bank.it.months(30));
        takesBack(bank, "months that hand over", () -> bank.it.months(9));
        bank.it.months(12);
        takesBack(bank, "claim", () -> bank.it.claim(0));
        bank.it.address(0, 1);
        takesBack(bank, "pass", () -> bank.it.pass(0));
        bank.it.pass(0);
        bank.it.months(1);
        bank.it.claim(2);
        Bank.holds("with interest", bank.it.purse(0, 1) > 0);
        takesBack(bank, "a month behind a claim", () -> bank.it.months(1));
        takesBack(bank, "claim behind a claim", () -> bank.it.claim(0));
    }

    private static void eachText() {
        Bank bank = three();
        bank.it.months(12);
        bank.it.claim(2);
        takesBack(bank, "text", () -> {
            bank.feed("land zz 1 2 3 4;");
            return bank.it.text(16);
        });
        takesBack(bank, "a text by itself", () -> bank.tell("land c 3 3 3 3;wait 9;order home;pays box 7;letter 9;"));
    }

    /** Twins are asked, so that the bank has calls left. */
    private static void takesBack(Bank bank, String name, Bank.Call act) {
        String before = bank.twin().world();
        int acts = bank.it.told(9);
        act.answer();
        Bank.same(name + " is an act", bank.it.told(9), Math.min(8, acts + 1));
        Bank.same(name + " taken back", bank.it.undo(), Math.min(7, acts));
        Bank.alike(name + " leaves all as before", bank.twin().world(), before);
    }

    private static void asMuchAsEight() {
        Bank bank = new Bank();
        for (int i = 1; i <= 12; i++) {
            bank.it.months(i);
            Bank.same("acts", bank.it.told(9), Math.min(i, 8));
        }
        for (int left = 7; left >= 0; left--) {
            Bank.same("undo", bank.it.undo(), left);
            Bank.same("acts left", bank.it.told(9), left);
        }
        Bank.same("month as behind four", bank.it.told(2), 10);
        Bank.same("no ninth", bank.it.undo(), Bank.NONE);
        Bank.same("month stays", bank.it.told(2), 10);
    }

    private static void newActsBehindUndo() {
        Bank bank = new Bank();
        for (int i = 0; i < 10; i++) {
            bank.it.months(1);
        }
        bank.it.undo();
        bank.it.undo();
        bank.it.undo();
        bank.it.months(100);
        Bank.same("one more", bank.it.told(9), 6);
        Bank.same("undo", bank.it.undo(), 5);
        Bank.same("month", bank.it.told(2), 7);
        Bank.same("undo", bank.it.undo(), 4);
        Bank.same("month", bank.it.told(2), 6);
    }

    private static void undoneForGood() {
        Bank bank = Bank.told(TEXT);
        bank.it.open(BOX, 0, 1, 5000);
        bank.it.undo();
        bank.refuses("the account", Bank.NO_SUCH, () -> bank.it.account(0, 0));
        Bank.same("its number is free", bank.it.open(BOX, 1, 0, 60), 0);
        Bank.same("the new one", bank.it.account(0, 3), 60);
        Bank.same("brought in", bank.it.books(0), 60);
        bank.it.undo();
        Bank.same("no letters of it", bank.it.letters(120), 0);
        Bank.same("no cents of it", bank.it.ahead(Bank.NONE, 120), 0);
        Bank.same("no rescue of it", bank.it.rescue(1, 120, 0), 0);
    }

    private static void textIsTakenBack() {
        Bank bank = Bank.told(TEXT);
        bank.it.open(BOX, 0, 1, 5000);
        bank.it.months(13);
        bank.tell("land c 1 1 1 1;");
        bank.tell("land d 1 1 1 1;x");
        Bank.same("place", bank.it.fault(), 15);
        bank.it.feed(1, 2, 3, 4, 5);
        Bank.same("undo", bank.it.undo(), 3);
        Bank.same("lands", bank.it.told(0), 2);
        Bank.same("month", bank.it.told(2), 13);
        Bank.same("rows", bank.it.told(6), 1);
        Bank.same("name", bank.it.letter(0, 0), 'a');
        Bank.same("the latest text's fault stays told", bank.it.fault(), 15);
        Bank.same("the tape stays", bank.it.told(8), 20);
        Bank.same("undo", bank.it.undo(), 2);
        Bank.same("undo", bank.it.undo(), 1);
        Bank.same("undo", bank.it.undo(), 0);
        Bank.same("no lands", bank.it.told(0), 0);
        Bank.same("home", bank.it.told(5), Bank.NONE);
    }

    private static void askingIsNoAct() {
        Bank bank = Bank.told(TEXT);
        bank.it.open(BOX, 0, 1, 5000);
        bank.it.feed(0, 0, 0, 0, 0);
        bank.it.soon(0);
        bank.it.ahead(0, 100);
        bank.it.letters(100);
        bank.it.rescue(1, 100, 1);
        bank.it.worth(0, 600);
        bank.it.print();
        Bank.kindOfRefusal(() -> bank.it.contact(5));
        Bank.same("acts", bank.it.told(9), 2);
        Bank.same("undo", bank.it.undo(), 1);
        Bank.same("accounts", bank.it.told(1), 0);
        Bank.same("status stays", bank.it.status(0), 1);
    }
}
