/** Terms, part 3: each sentence on soon, rescue, undo and exceptions that names a boundary case. */
public final class Terms3Test extends TextCase {
    private static final int BOX = 4;
    private static final int WAGES = 1;

    public static void main(String[] args) {
        soonFromOne();
        soonUpToSixHundred();
        soonIfNothingElseIsDone();
        rescueByOneToThree();
        rescueForMonths();
        rescueAwakeOrWritten();
        rescueFewer();
        rescueLeastCents();
        rescueLeastAsBits();
        rescueTheLastAccounts();
        acts();
        noActs();
        ofTheLatestEight();
        notYetTakenBack();
        rowsStay();
        askedNothingStaysChanged();
        exceptionToldFirst();
        throwingChangesNothing();
        Bank.end("Terms3Test");
    }

    private static void soonFromOne() {
        Bank.sentence("Terms 3: SOON: in how many MONTHS (1 ..) it is HANDED");
        Bank bank = Bank.told(A + "sleep box a 5;wait 1;");
        bank.it.open(BOX, 0, Bank.NONE, 5);
        for (int gone = 0; gone < 12; gone++) {
            Bank.same("soon behind " + gone, bank.it.soon(0), 12 - gone);
            Bank.same("handed in month " + (gone + 1), bank.it.months(1), gone == 11 ? 1 : 0);
        }
        Bank.same("handed", bank.it.soon(0), Bank.NONE);
    }

    private static void soonUpToSixHundred() {
        Bank.sentence("Terms 3: SOON: (1 to 600)");
        int[] sleeps = {595, 596, 597, 598, 599};
        for (int i = 0; i < sleeps.length; i++) {
            Bank bank = Bank.told("land a " + (sleeps[i] + 3) % 12 + " 0 0 1;sleep box a " + sleeps[i] + ";");
            bank.it.open(BOX, 0, Bank.NONE, 5);
            int months = sleeps[i] + 3;
            Bank.same("soon " + months, bank.it.soon(0), months <= 600 ? months : Bank.NONE);
            bank.it.months(1);
            Bank.same("soon a month on", bank.it.soon(0), months <= 601 ? months - 1 : Bank.NONE);
            bank.it.months(1);
            Bank.same("soon two months on", bank.it.soon(0), months - 2);
        }
    }

    private static void soonIfNothingElseIsDone() {
        Bank.sentence("Terms 3: SOON: if nothing else is done");
        Bank bank = Bank.told(A + "land b 6 0 0 1;sleep box a 5;sleep box b 5;wait 1;letter 4;pays box 999;");
        bank.it.open(BOX, 0, 1, 5000);
        bank.it.open(BOX, 1, 0, 5);
        for (int i = 0; i < 2; i++) {
            int soon = bank.it.soon(i);
            Bank.same("soon " + i, soon, i == 0 ? 12 : 6);
            Bank short1 = bank.twin();
            short1.it.months(soon - 1);
            Bank.same("a month less", short1.it.account(i, 4), 1);
            short1.it.months(1);
            Bank.same("just so many", short1.it.account(i, 4), 2);
        }
        bank.it.address(0, Bank.NONE);
        Bank.same("elsewhere", bank.it.soon(0), 6);
        bank.it.months(5);
        Bank.same("written", bank.it.soon(0), 1);
        bank.it.contact(0);
        Bank.same("behind a contact", bank.it.soon(0), 13);
    }

    /** Boxes of these cents, written, handed in six months; with a contact now in 18. */
    private static Bank boxes(int... cents) {
        Bank bank = Bank.told(A + "sleep box a 4;sleep wages a 600;");
        for (int one : cents) {
            bank.it.open(BOX, 0, Bank.NONE, one);
        }
        bank.it.months(6);
        return bank;
    }

    private static void rescueByOneToThree() {
        Bank.sentence("Terms 3: RESCUE by k (1 to 3)");
        Bank bank = boxes(10, 500, 30, 400, 200);
        int[] sets = {2, 10, 26};
        int[] left = {640, 240, 40};
        for (int k = 1; k <= 3; k++) {
            Bank.same("set of " + k, bank.it.rescue(k, 12, 0), sets[k - 1]);
            Bank.same("cents of " + k, bank.it.rescue(k, 12, 1), left[k - 1]);
        }
        for (int k : new int[] {0, -1, 4, Integer.MIN_VALUE, Integer.MAX_VALUE}) {
            bank.refuses("rescue by " + k, Bank.ARGUMENT, () -> bank.it.rescue(k, 12, 0));
        }
    }

    private static void rescueForMonths() {
        Bank.sentence("Terms 3: RESCUE for n MONTHS (1 to 120)");
        Bank bank = boxes(10, 500, 30);
        Bank.same("for 1", bank.it.rescue(1, 1, 1), 0);
        Bank.same("for 5", bank.it.rescue(1, 5, 1), 0);
        Bank.same("for 6", bank.it.rescue(1, 6, 1), 40);
        Bank.same("for 17", bank.it.rescue(1, 17, 1), 40);
        Bank.same("for 18 it is no use", bank.it.rescue(1, 18, 1), 540);
        Bank.same("for 120", bank.it.rescue(1, 120, 1), 540);
        for (int n : new int[] {0, -1, 121, Integer.MIN_VALUE, Integer.MAX_VALUE}) {
            bank.refuses("rescue for " + n, Bank.ARGUMENT, () -> bank.it.rescue(1, n, 0));
        }
        Bank late = Bank.told("land a 0 0 0 1;sleep box a 117;wait 3;");
        late.it.open(BOX, 0, Bank.NONE, 77);
        Bank.same("in the 120th month", late.it.ahead(0, 120), 77);
        Bank.same("rescued from it", late.it.rescue(1, 120, 1), 77);
        late.it.months(1);
        Bank.same("a contact is in time", late.it.rescue(1, 120, 1), 0);
        Bank.same("without one", late.it.ahead(0, 119), 77);
    }

    private static void rescueAwakeOrWritten() {
        Bank.sentence("Terms 3: RESCUE: which k ACCOUNTS, AWAKE or WRITTEN");
        Bank bank = Bank.told(A + "sleep box a 4;sleep wages a 9;sleep savings a 1;wait 0;");
        bank.it.open(BOX, 0, Bank.NONE, 9000);
        bank.it.open(0, 0, Bank.NONE, 8000);
        bank.it.open(WAGES, 0, Bank.NONE, 7);
        bank.it.open(BOX, 0, Bank.NONE, 6000);
        bank.it.close(3);
        bank.it.open(BOX, 0, Bank.NONE, 40);
        bank.it.months(6);
        bank.it.contact(0);
        bank.it.months(5);
        bank.it.open(BOX, 0, Bank.NONE, 3);
        bank.it.months(1);
        Bank.same("written ones are handed", bank.it.told(6), 4);
        bank.it.claim(1);
        Bank.same("but one", bank.it.rescue(3, 12, 0), 32);
        bank.it.open(BOX, 0, Bank.NONE, 5000);
        Bank.same("an awake one too", bank.it.rescue(2, 24, 0), 96);
    }

    private static void rescueFewer() {
        Bank.sentence("Terms 3: RESCUE: fewer, if there are not so many");
        Bank bank = boxes(10, 20, 40);
        int[] sets = {7, 6, 4, 0};
        int[] cents = {0, 0, 0, 0};
        for (int closed = 0; closed <= 3; closed++) {
            Bank.same("set, closed " + closed, bank.it.rescue(3, 12, 0), sets[closed]);
            Bank.same("cents, closed " + closed, bank.it.rescue(3, 12, 1), cents[closed]);
            if (closed < 3) {
                bank.it.close(closed);
            }
        }
        Bank.same("none by 1", bank.it.rescue(1, 1, 0), 0);
        Bank none = new Bank();
        Bank.same("no accounts", none.it.rescue(3, 120, 0), 0);
        Bank.same("no cents", none.it.rescue(3, 120, 1), 0);
    }

    private static void rescueLeastCents() {
        Bank.sentence("Terms 3: RESCUE: so that least CENTS are HANDED in n MONTHS");
        Bank bank = Bank.told(A + "land b 6 0 0 1;sleep box a 1;sleep box b 1;sleep wages b 1;order address;wait 0;");
        bank.it.open(BOX, 0, Bank.NONE, 100);
        bank.it.open(BOX, 1, Bank.NONE, 900);
        bank.it.open(WAGES, 0, Bank.NONE, 50_000);
        bank.it.months(3);
        Bank.same("not the greatest, but one that is handed else", bank.it.rescue(1, 3, 0), 1);
        Bank.same("not even of b", bank.it.rescue(1, 3, 1), 900);
        Bank sure = Bank.told(A + "sleep box a 4;sleep wages a 600;");
        sure.it.open(WAGES, 0, Bank.NONE, 99_999);
        sure.it.open(BOX, 0, Bank.NONE, 7);
        sure.it.months(6);
        Bank.same("what is not handed at all is not rescued", sure.it.rescue(1, 12, 0), 2);
        Bank more = Bank.told(A + "sleep box a if age less 40 then 4 else 1;pays box 999;letter 9;wait 1;");
        more.it.open(BOX, 0, Bank.NONE, 100_000);
        more.it.open(BOX, 0, Bank.NONE, 100_100);
        more.it.months(11);
        long both = more.it.ahead(0, 13);
        Bank.same("what they have by then", more.it.rescue(1, 12, 0), 2);
        Bank.same("handed a year later, with more interest", more.it.rescue(2, 13, 1), handedWith(more, 3, 13));
        Bank.holds("a contact makes it more", handedWith(more, 3, 13) > both);
        Bank.same("so just one, the one with less", more.it.rescue(1, 13, 0), 1);
        Bank.same("and its cents", more.it.rescue(1, 13, 1), handedWith(more, 1, 13));
        Bank nameless = Bank.told("land a 0 50 0 1;sleep box a 4;");
        nameless.it.open(BOX, 0, Bank.NONE, 7);
        nameless.it.open(BOX, 0, Bank.NONE, 49);
        nameless.it.months(6);
        Bank.same("nameless ones count", nameless.it.rescue(1, 12, 0), 2);
        Bank.same("and their cents", nameless.it.rescue(1, 12, 1), 7);
    }

    /** What goes to land 0 in n MONTHS, if the accounts of the set have a contact now; a twin is asked. */
    private static long handedWith(Bank bank, int set, int n) {
        Bank twin = bank.twin();
        for (int i = 0; i < 12; i++) {
            if ((set >> i & 1) == 1) {
                twin.it.contact(i);
            }
        }
        long before = twin.it.purse(0, 2);
        twin.go(n);
        return twin.it.purse(0, 2) - before;
    }

    private static void rescueLeastAsBits() {
        Bank.sentence("Terms 3: RESCUE: of several the least as bits");
        Bank equal = boxes(50, 50, 50, 50);
        Bank.same("one of equal ones", equal.it.rescue(1, 12, 0), 1);
        Bank.same("two of equal ones", equal.it.rescue(2, 12, 0), 3);
        Bank.same("three of equal ones", equal.it.rescue(3, 12, 0), 7);
        Bank.same("where none is handed", equal.it.rescue(2, 1, 0), 3);
        Bank last = boxes(50, 0, 50, 60);
        Bank.same("one", last.it.rescue(1, 12, 0), 8);
        Bank.same("two", last.it.rescue(2, 12, 0), 9);
        Bank.same("three", last.it.rescue(3, 12, 0), 13);
        Bank none = boxes(0, 0, 50, 0);
        Bank.same("one that is of use, then the least", none.it.rescue(2, 12, 0), 5);
        none.it.close(0);
        Bank.same("no bit of a closed one", none.it.rescue(2, 12, 0), 6);
    }

    private static void rescueTheLastAccounts() {
        Bank.sentence("Terms 3: RESCUE: as bits, of all 12 ACCOUNTS");
        Bank bank = boxes(1, 1, 1, 1, 1, 1, 1, 1, 1, 20, 30, 40);
        Bank.same("the last", bank.it.rescue(1, 12, 0), 2048);
        Bank.same("the last two", bank.it.rescue(2, 12, 0), 3072);
        Bank.same("the last three", bank.it.rescue(3, 12, 0), 3584);
        Bank.same("cents", bank.it.rescue(3, 12, 1), 9);
    }

    private static void act(Bank bank, String name, Bank.Call call) {
        int before = bank.it.told(9);
        String world = bank.twin().world();
        Bank acted = bank.twin();
        call.answer();
        Bank.same(name + " is an act", bank.it.told(9), Math.min(8, before + 1));
        Bank back = bank.twin();
        Bank.same(name + " is taken back", back.it.undo(), Math.min(7, before));
        Bank.alike(name + " is taken back whole", back.world(), world);
        Bank.alike(name + ": the twin is as before", acted.world(), world);
    }

    private static void acts() {
        Bank.sentence("Terms 3: ACTS: text() without a FAULT, open(), contact(), deposit(), draw(), address(), close(), "
                + "months(), claim(), pass()");
        Bank bank = new Bank();
        act(bank, "text", () -> bank.tell("land a 0 9 500 3;land b 0 0 300 1;sleep box a 1;sleep box b 1;pays box 90;letter 2;"));
        act(bank, "open", () -> bank.it.open(BOX, 0, 1, 7000));
        act(bank, "open again", () -> bank.it.open(BOX, 0, 1, 8));
        act(bank, "months", () -> bank.it.months(2));
        act(bank, "contact", () -> bank.it.contact(1));
        act(bank, "deposit", () -> bank.it.deposit(0, 1));
        act(bank, "draw", () -> bank.it.draw(0, 1));
        act(bank, "months that hand over", () -> bank.it.months(12));
        act(bank, "address", () -> bank.it.address(0, 1));
        act(bank, "pass", () -> bank.it.pass(0));
        act(bank, "address, the same", () -> bank.it.address(0, 1));
        act(bank, "months behind", () -> bank.it.months(5));
        act(bank, "claim", () -> bank.it.claim(0));
        Bank.holds("with interest", bank.it.purse(1, 1) > 0);
        act(bank, "open a third", () -> bank.it.open(BOX, 0, 1, 8));
        act(bank, "close", () -> bank.it.close(2));
        act(bank, "a new text", () -> bank.tell(A));
    }

    private static void noActs() {
        Bank.sentence("Terms 3: ACTS: text() without a FAULT ..: nothing else is one");
        Bank bank = Bank.told(A + "sleep box a 1;");
        bank.it.open(BOX, 0, Bank.NONE, 5);
        Bank.same("text and open", bank.it.told(9), 2);
        bank.tell("x");
        bank.it.feed(1, 1, 1, 1, 1);
        Bank.kindOfRefusal(() -> bank.it.text(21));
        Bank.kindOfRefusal(() -> bank.it.open(5, 0, 0, 0));
        Bank.kindOfRefusal(() -> bank.it.contact(1));
        Bank.kindOfRefusal(() -> bank.it.deposit(0, 0));
        Bank.kindOfRefusal(() -> bank.it.draw(0, 6));
        Bank.kindOfRefusal(() -> bank.it.address(0, 1));
        Bank.kindOfRefusal(() -> bank.it.close(1));
        Bank.kindOfRefusal(() -> bank.it.months(0));
        Bank.kindOfRefusal(() -> bank.it.claim(0));
        Bank.kindOfRefusal(() -> bank.it.pass(0));
        bank.whole();
        bank.it.ahead(0, 120);
        bank.it.letters(120);
        bank.it.rescue(1, 120, 0);
        Bank.same("still two", bank.it.told(9), 2);
        Bank.same("undo the open", bank.it.undo(), 1);
        Bank.same("no account", bank.it.told(1), 0);
        Bank.same("undo the text", bank.it.undo(), 0);
        Bank.same("no land", bank.it.told(0), 0);
        Bank.same("no more", bank.it.undo(), Bank.NONE);
    }

    private static void ofTheLatestEight() {
        Bank.sentence("Terms 3: undo() takes the latest one back .., of the latest 8");
        for (int acts : new int[] {0, 1, 7, 8, 9, 20}) {
            Bank bank = new Bank();
            for (int i = 0; i < acts; i++) {
                bank.it.months(1);
            }
            int most = Math.min(8, acts);
            Bank.same("acts that can be taken back of " + acts, bank.it.told(9), most);
            for (int left = most - 1; left >= 0; left--) {
                Bank.same("undo of " + acts, bank.it.undo(), left);
                Bank.same("month of " + acts, bank.it.told(2), acts - most + left);
            }
            Bank.same("none of " + acts, bank.it.undo(), Bank.NONE);
            Bank.same("none of " + acts + " again", bank.it.undo(), Bank.NONE);
            Bank.same("month stays", bank.it.told(2), acts - most);
        }
    }

    private static void notYetTakenBack() {
        Bank.sentence("Terms 3: undo() takes the latest one back that is not yet");
        Bank bank = new Bank();
        int[] months = {1, 2, 4, 8, 16};
        for (int n : months) {
            bank.it.months(n);
        }
        Bank.same("16", bank.it.undo(), 4);
        Bank.same("8", bank.it.undo(), 3);
        Bank.same("month", bank.it.told(2), 7);
        bank.it.months(32);
        Bank.same("32", bank.it.undo(), 3);
        Bank.same("month", bank.it.told(2), 7);
        Bank.same("4", bank.it.undo(), 2);
        Bank.same("month", bank.it.told(2), 3);
        Bank.same("2", bank.it.undo(), 1);
        Bank.same("1", bank.it.undo(), 0);
        Bank.same("none", bank.it.undo(), Bank.NONE);
        Bank.same("month", bank.it.told(2), 0);
    }

    private static void rowsStay() {
        Bank.sentence("Terms 3: a row of the book stays as it was written");
        Bank bank = Bank.told("land a 0 10 999 9;land b 0 0 0 1;sleep box a 1;sleep box b 1;");
        bank.it.open(BOX, 0, 1, 90);
        bank.it.open(BOX, 0, 1, 9);
        bank.it.months(12);
        int[][] want = {{12, 0, 0, 90, 0}, {12, 1, 0, 9, 1}};
        for (int step = 0; step < 5; step++) {
            for (int k = 0; k < 2; k++) {
                for (int what = 0; what < 5; what++) {
                    Bank.same("step " + step + ": row(" + k + ", " + what + ")", bank.it.row(k, what), want[k][what]);
                }
            }
            Bank.same("rows", bank.it.told(6), 2);
            Bank.same("in a's rows", bank.it.purse(0, 2), 99);
            Bank.same("in b's rows", bank.it.purse(1, 2), 0);
            if (step < 2) {
                bank.it.address(step, 1);
                bank.it.pass(step);
            } else if (step == 2) {
                bank.it.months(30);
            } else if (step == 3) {
                bank.it.claim(0);
            }
        }
    }

    private static void askedNothingStaysChanged() {
        Bank.sentence("Terms 3: asked, nothing stays changed");
        Bank bank = Bank.told(A + "land b 6 0 10 1;sleep box a 1;sleep box b if letters less 1 then 3 else 30;letter 2;"
                + "pays box 999;order birth address;");
        for (int i = 0; i < 6; i++) {
            bank.it.open(BOX, i % 2, i % 3 - 1, 40_000 + i);
        }
        bank.it.months(7);
        String whole = bank.twin().whole();
        Bank.Call[] asks = {() -> bank.it.soon(0), () -> bank.it.soon(1), () -> bank.it.worth(1, 600),
            () -> bank.it.ahead(Bank.NONE, 120), () -> bank.it.ahead(1, 1), () -> bank.it.letters(120),
            () -> bank.it.rescue(3, 120, 0), () -> bank.it.rescue(1, 1, 1), () -> bank.it.sleep(1), () -> bank.it.print(),
            () -> bank.it.told(9), () -> bank.it.fault(), () -> bank.it.status(0)};
        for (int i = 0; i < asks.length; i++) {
            long first = asks[i].answer();
            Bank.same("ask " + i + " again", asks[i].answer(), first);
        }
        Bank.alike("nothing is changed", bank.whole(), whole);
    }

    private static void exceptionToldFirst() {
        Bank.sentence("Terms 3: of several exceptions of one call the one told first is thrown");
        Bank bank = Bank.told(A);
        bank.it.open(BOX, 0, Bank.NONE, 5);
        bank.it.close(0);
        bank.refuses("deposit: no account, no cents", Bank.NO_SUCH, () -> bank.it.deposit(1, 0));
        bank.refuses("deposit: no cents, closed", Bank.ARGUMENT, () -> bank.it.deposit(0, 0));
        bank.refuses("draw: no account, no cents", Bank.NO_SUCH, () -> bank.it.draw(-1, 1_000_001));
        bank.refuses("draw: no cents, closed", Bank.ARGUMENT, () -> bank.it.draw(0, -1));
        bank.refuses("land: no land, no what", Bank.NO_SUCH, () -> bank.it.land(1, 6));
        bank.refuses("purse: no land, no what", Bank.NO_SUCH, () -> bank.it.purse(1, 4));
        bank.refuses("account: no account, no what", Bank.NO_SUCH, () -> bank.it.account(1, 11));
        bank.refuses("worth: no account, no months", Bank.NO_SUCH, () -> bank.it.worth(1, 601));
        bank.refuses("row: no row, no what", Bank.NO_SUCH, () -> bank.it.row(0, 5));
        bank.refuses("ahead: no land, no months", Bank.NO_SUCH, () -> bank.it.ahead(1, 121));
        bank.refuses("open: no land, no kind", Bank.NO_SUCH, () -> bank.it.open(5, 0, 1, -1));
        for (int i = 1; i < 12; i++) {
            bank.it.open(BOX, 0, Bank.NONE, 5);
        }
        bank.refuses("open: no land, full", Bank.NO_SUCH, () -> bank.it.open(BOX, 1, Bank.NONE, 5));
        bank.refuses("open: no kind, full", Bank.ARGUMENT, () -> bank.it.open(5, 0, Bank.NONE, 5));
        bank.refuses("open: no cents, full", Bank.ARGUMENT, () -> bank.it.open(BOX, 0, Bank.NONE, -1));
        bank.refuses("open: all", Bank.NO_SUCH, () -> bank.it.open(-1, -2, -2, -1));
        bank.refuses("open: full", Bank.STATE, () -> bank.it.open(BOX, 0, Bank.NONE, 5));
        Bank last = Bank.told(A);
        last.go(6000);
        last.refuses("months: none such, beyond", Bank.ARGUMENT, () -> last.it.months(121));
        last.refuses("months: beyond", Bank.STATE, () -> last.it.months(120));
    }

    private static void throwingChangesNothing() {
        Bank.sentence("Terms 3: a call that throws changes nothing but status()");
        Bank bank = Bank.told("land a 0 50 600 2;land b 0 0 0 1;sleep box a 1;sleep box b 1;sleep cheque a 600;");
        bank.it.open(BOX, 0, 1, 900);
        bank.it.open(BOX, 0, 1, 40);
        bank.it.months(12);
        bank.it.open(3, 0, 1, 100_000_000);
        bank.it.feed(0x6c616e64, 0, 0, 0, 0);
        bank.tell("wait 1;;");
        bank.it.feed(0x6c616e64, 0, 0, 0, 0);
        bank.refuses("text", Bank.ARGUMENT, () -> bank.it.text(21));
        bank.refuses("open", Bank.NO_SUCH, () -> bank.it.open(3, 2, 0, 0));
        bank.refuses("contact", Bank.STATE, () -> bank.it.contact(0));
        bank.refuses("deposit", Bank.STATE, () -> bank.it.deposit(2, 1));
        bank.refuses("draw", Bank.STATE, () -> bank.it.draw(0, 1));
        bank.refuses("address", Bank.NO_SUCH, () -> bank.it.address(0, 2));
        bank.refuses("close", Bank.STATE, () -> bank.it.close(1));
        bank.refuses("months", Bank.ARGUMENT, () -> bank.it.months(121));
        bank.refuses("claim", Bank.STATE, () -> bank.it.claim(1));
        bank.refuses("pass", Bank.STATE, () -> bank.it.pass(0));
        Bank.same("no such", bank.it.status(0), 2);
        Bank.same("arguments", bank.it.status(1), 2);
        Bank.same("states", bank.it.status(2), 6);
        Bank.same("undo takes the open back", bank.it.undo(), 4);
        Bank.same("accounts", bank.it.told(1), 2);
        Bank.same("status is not taken back", bank.it.status(2), 6);
    }
}
