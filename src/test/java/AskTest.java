/** Promises 15, 16, 18, 19, 22, 25, 26 and 27: what is told, of lands, and what will come. */
public final class AskTest {
    private static final int SAVINGS = 0;
    private static final int BOX = 4;

    public static void main(String[] args) {
        refusedQuestions();
        toldNumbers();
        heldBy();
        soon();
        soonUpToSixHundred();
        aheadOfEachLand();
        lettersToCome();
        rescues();
        rescueOfFewer();
        rescueOfEqualOnes();
        rescueThatHarms();
        rescueOfWritten();
        rescueAsItGoes();
        refusedForecasts();
        askedNothingChanges();
        Bank.end("AskTest");
    }

    private static void refusedQuestions() {
        Bank bank = Bank.told("land ab 0 0 0 1;");
        bank.refuses("told(10)", Bank.ARGUMENT, () -> bank.it.told(10));
        bank.refuses("told(-1)", Bank.ARGUMENT, () -> bank.it.told(-1));
        bank.refuses("land(1)", Bank.NO_SUCH, () -> bank.it.land(1, 0));
        bank.refuses("land(-1)", Bank.NO_SUCH, () -> bank.it.land(-1, 6));
        bank.refuses("land(0, 6)", Bank.ARGUMENT, () -> bank.it.land(0, 6));
        bank.refuses("land(0, -1)", Bank.ARGUMENT, () -> bank.it.land(0, -1));
        bank.refuses("letter(1, 0)", Bank.NO_SUCH, () -> bank.it.letter(1, 0));
        bank.refuses("letter(-1, 0)", Bank.NO_SUCH, () -> bank.it.letter(-1, 0));
        bank.refuses("letter(0, 2)", Bank.NO_SUCH, () -> bank.it.letter(0, 2));
        bank.refuses("letter(0, -1)", Bank.NO_SUCH, () -> bank.it.letter(0, -1));
        bank.refuses("pays(5)", Bank.ARGUMENT, () -> bank.it.pays(5));
        bank.refuses("pays(-1)", Bank.ARGUMENT, () -> bank.it.pays(-1));
    }

    private static void toldNumbers() {
        Bank bank = Bank.told("wait 7;land ab 0 0 0 1;land c 3 0 0 1;home c;letter 2;sleep box ab 1;");
        bank.it.open(BOX, 0, Bank.NONE, 30);
        bank.it.open(BOX, 0, Bank.NONE, 30);
        bank.it.months(14);
        bank.it.feed(0, 0, 0, 0, 0);
        int[] want = {2, 2, 14, 7, 2, 1, 2, 2, 20, 4};
        for (int what = 0; what < want.length; what++) {
            Bank.same("told(" + what + ")", bank.it.told(what), want[what]);
        }
    }

    private static void heldBy() {
        Bank bank = Bank.told("land a 0 0 0 1;land b 0 0 0 1;sleep box a 1;sleep wages b 1;sleep savings b 1;wait 0;");
        int[] kinds = {BOX, 1, BOX, 2, SAVINGS, BOX};
        for (int kind : kinds) {
            bank.it.open(kind, 0, 1, 30);
        }
        bank.it.close(5);
        bank.it.months(12);
        Bank.same("a holds", bank.it.land(0, 5), 5);
        Bank.same("b holds", bank.it.land(1, 5), 18);
        Bank.same("kinds of a", bank.it.land(0, 4), 16);
        Bank.same("kinds of b", bank.it.land(1, 4), 3);
        bank.it.claim(2);
        Bank.same("a holds but one", bank.it.land(0, 5), 1);
    }

    private static void soon() {
        Bank bank = Bank.told("land a 3 0 0 1;sleep box a 4;wait 11;");
        bank.it.open(BOX, 0, Bank.NONE, 30);
        bank.it.open(BOX, Bank.NONE, Bank.NONE, 30);
        bank.it.open(SAVINGS, 0, Bank.NONE, 30);
        Bank.same("awake", bank.it.soon(0), 15);
        Bank.same("by the bank's home", bank.it.soon(1), 15);
        Bank.same("no land", bank.it.soon(2), Bank.NONE);
        bank.it.months(14);
        Bank.same("written", bank.it.soon(0), 1);
        bank.it.contact(0);
        Bank.same("awake anew", bank.it.soon(0), 25);
        bank.it.months(1);
        Bank.same("handed", bank.it.soon(1), Bank.NONE);
        bank.it.close(0);
        Bank.same("closed", bank.it.soon(0), Bank.NONE);
        bank.refuses("no account", Bank.NO_SUCH, () -> bank.it.soon(3));
        bank.refuses("-1", Bank.NO_SUCH, () -> bank.it.soon(-1));
    }

    private static void soonUpToSixHundred() {
        Bank bank = Bank.told("land a 0 0 0 1;sleep box a 597;sleep wages a 598;sleep savings a 999;wait 3;");
        bank.it.open(BOX, 0, Bank.NONE, 30);
        bank.it.open(1, 0, Bank.NONE, 30);
        bank.it.open(SAVINGS, 0, Bank.NONE, 30);
        Bank.same("600", bank.it.soon(0), 600);
        Bank.same("612", bank.it.soon(1), Bank.NONE);
        bank.it.months(11);
        Bank.same("601", bank.it.soon(1), Bank.NONE);
        bank.it.months(1);
        Bank.same("600 now", bank.it.soon(1), 600);
        Bank.same("sleep of 600", bank.it.soon(2), 600);
    }

    private static void aheadOfEachLand() {
        Bank bank = Bank.told("land a 0 0 0 1;land b 6 100 0 1;sleep box a 4;sleep box b 4;sleep savings b 4;"
                + "pays savings 600;wait 2;letter 5;");
        bank.it.open(BOX, 0, Bank.NONE, 1000);
        bank.it.open(BOX, 1, Bank.NONE, 200);
        bank.it.open(SAVINGS, 1, Bank.NONE, 5000);
        bank.it.open(BOX, 1, Bank.NONE, 6);
        bank.it.open(BOX, 1, Bank.NONE, 70_000);
        bank.it.close(4);
        int[] months = {1, 5, 6, 11, 12, 120};
        long savings = 5000;
        for (int month = 1; month <= 6; month++) {
            savings += savings / 200;
            savings -= month == 4 ? 5 : 0;
        }
        long[] ofB = {0, 0, 196 + savings, 196 + savings, 196 + savings, 196 + savings};
        long[] ofA = {0, 0, 0, 0, 995, 995};
        for (int i = 0; i < months.length; i++) {
            Bank.same("ahead(0, " + months[i] + ")", bank.it.ahead(0, months[i]), ofA[i]);
            Bank.same("ahead(1, " + months[i] + ")", bank.it.ahead(1, months[i]), ofB[i]);
            Bank.same("ahead(NONE, " + months[i] + ")", bank.it.ahead(Bank.NONE, months[i]), ofA[i] + ofB[i]);
        }
        bank.it.months(7);
        Bank.same("what is handed is not ahead", bank.it.ahead(1, 120), 0);
        Bank.same("what is not is", bank.it.ahead(Bank.NONE, 5), 995);
    }

    private static void lettersToCome() {
        Bank bank = Bank.told("land a 0 0 0 1;sleep box a 4;sleep savings a 7;");
        bank.it.open(BOX, 0, Bank.NONE, 30);
        bank.it.open(SAVINGS, 0, Bank.NONE, 30);
        bank.it.open(BOX, 0, Bank.NONE, 30);
        bank.it.open(2, 0, Bank.NONE, 30);
        int[] months = {1, 3, 4, 6, 7, 120};
        int[] want = {0, 0, 2, 2, 3, 3};
        for (int i = 0; i < months.length; i++) {
            Bank.same("letters(" + months[i] + ")", bank.it.letters(months[i]), want[i]);
        }
        bank.it.months(5);
        Bank.same("of those still awake", bank.it.letters(120), 1);
        bank.it.contact(0);
        Bank.same("and awake anew", bank.it.letters(120), 2);
    }

    /** Accounts of 100, 900, 500 and 300 cents that are handed in month 12 without a contact. */
    private static Bank four() {
        Bank bank = Bank.told("land a 0 0 0 1;sleep box a 4;");
        int[] cents = {100, 900, 500, 300};
        bank.it.months(7);
        for (int one : cents) {
            bank.it.open(BOX, 0, Bank.NONE, one);
        }
        bank.it.months(6);
        return bank;
    }

    private static void rescues() {
        Bank bank = four();
        int[] sets = {2, 6, 14};
        for (int k = 1; k <= 3; k++) {
            Bank.same("in time all the same, " + k, bank.it.rescue(k, 10, 1), 0);
            Bank.same("the least as bits, " + k, bank.it.rescue(k, 10, 0), (1 << k) - 1);
            Bank.same("no use, " + k, bank.it.rescue(k, 120, 1), 1800);
            Bank.same("no use, set " + k, bank.it.rescue(k, 120, 0), (1 << k) - 1);
        }
        Bank late = Bank.told("land a 0 0 0 1;sleep box a 4;");
        int[] cents = {100, 900, 500, 300};
        for (int one : cents) {
            late.it.open(BOX, 0, Bank.NONE, one);
        }
        late.it.months(6);
        int[] left = {900, 400, 100};
        for (int k = 1; k <= 3; k++) {
            Bank.same("set of " + k, late.it.rescue(k, 6, 0), sets[k - 1]);
            Bank.same("cents behind " + k, late.it.rescue(k, 17, 1), left[k - 1]);
            Bank.same("nothing is handed in 5", late.it.rescue(k, 5, 1), 0);
            Bank.same("nobody is rescued for 18", late.it.rescue(k, 18, 1), 1800);
        }
    }

    private static void rescueOfFewer() {
        Bank bank = four();
        bank.it.close(1);
        bank.it.close(3);
        Bank.same("two of three", bank.it.rescue(3, 120, 0), 5);
        bank.it.close(0);
        Bank.same("one of three", bank.it.rescue(3, 120, 0), 4);
        bank.it.close(2);
        Bank.same("none", bank.it.rescue(3, 120, 0), 0);
        Bank.same("no cents", bank.it.rescue(3, 120, 1), 0);
    }

    private static void rescueOfEqualOnes() {
        Bank bank = Bank.told("land a 0 0 0 1;sleep box a 4;");
        for (int i = 0; i < 12; i++) {
            bank.it.open(BOX, 0, Bank.NONE, i == 0 ? 10 : i == 5 ? 70 : 50);
        }
        bank.it.months(6);
        Bank.same("one", bank.it.rescue(1, 6, 0), 32);
        Bank.same("two", bank.it.rescue(2, 6, 0), 34);
        Bank.same("three", bank.it.rescue(3, 6, 0), 38);
        Bank.same("cents", bank.it.rescue(3, 6, 1), 410);
    }

    private static void rescueThatHarms() {
        Bank bank = Bank.told("land a 0 0 0 1;land b 6 0 0 1;sleep savings a 4;sleep box b 1;pays savings 999;wait 0;");
        bank.it.open(SAVINGS, 0, Bank.NONE, 1_000_000);
        bank.it.months(11);
        long without = bank.it.ahead(Bank.NONE, 120);
        Bank.same("just so many, though a contact costs", bank.it.rescue(1, 120, 0), 1);
        Bank.holds("more is handed, later", bank.it.rescue(1, 120, 1) > without);
        bank.it.open(BOX, 0, Bank.NONE, 5);
        Bank.same("rather another one", bank.it.rescue(1, 120, 0), 2);
        Bank.same("with what is handed then", bank.it.rescue(1, 120, 1), without);
    }

    private static void rescueOfWritten() {
        Bank bank = Bank.told("land a 0 0 0 1;sleep box a 4;sleep wages a 10;wait 1;");
        bank.it.open(1, 0, Bank.NONE, 50);
        bank.it.open(BOX, 0, Bank.NONE, 60);
        bank.it.months(9);
        bank.it.open(BOX, 0, Bank.NONE, 9000);
        Bank.same("written and awake", bank.it.rescue(1, 3, 0), 2);
        Bank.same("two", bank.it.rescue(2, 3, 0), 3);
        Bank.same("cents", bank.it.rescue(1, 3, 1), 50);
        bank.it.months(3);
        Bank.same("what is handed can't be rescued", bank.it.rescue(3, 1, 0), 4);
    }

    /** What is forecast is what comes when the contacts are had, the months go, and all is taken back. */
    private static void rescueAsItGoes() {
        Bank bank = Bank.told("land a 0 90 0 1;sleep box a 4+3*letters;sleep wages a if cents less 1010 then 9 else 2;"
                + "pays wages 700;pays box 999;letter 17;wait 1;");
        int[] cents = {900, 950, 2000, 40, 1000, 300};
        for (int i = 0; i < cents.length; i++) {
            bank.it.open(i % 2 == 0 ? 1 : BOX, 0, Bank.NONE, cents[i]);
        }
        bank.it.months(7);
        for (int n = 1; n <= 31; n++) {
            int set = (int) bank.it.rescue(3, n, 0);
            long forecast = bank.it.rescue(3, n, 1);
            for (int i = 0; i < cents.length; i++) {
                if ((set >> i & 1) == 1) {
                    bank.it.contact(i);
                }
            }
            Bank.same("ahead behind the rescue for " + n, bank.it.ahead(Bank.NONE, n), forecast);
            bank.it.months(n);
            Bank.same("held behind the rescue for " + n, bank.it.purse(0, 0), forecast);
            for (int acts = 0; acts < 4; acts++) {
                bank.it.undo();
            }
            Bank.same("month", bank.it.told(2), 7);
        }
    }

    private static void refusedForecasts() {
        Bank bank = four();
        bank.refuses("ahead land 1", Bank.NO_SUCH, () -> bank.it.ahead(1, 0));
        bank.refuses("ahead land -2", Bank.NO_SUCH, () -> bank.it.ahead(-2, 1));
        bank.refuses("ahead 0", Bank.ARGUMENT, () -> bank.it.ahead(0, 0));
        bank.refuses("ahead 121", Bank.ARGUMENT, () -> bank.it.ahead(Bank.NONE, 121));
        bank.refuses("letters 0", Bank.ARGUMENT, () -> bank.it.letters(0));
        bank.refuses("letters 121", Bank.ARGUMENT, () -> bank.it.letters(121));
        bank.refuses("rescue k 0", Bank.ARGUMENT, () -> bank.it.rescue(0, 1, 0));
        bank.refuses("rescue k 4", Bank.ARGUMENT, () -> bank.it.rescue(4, 1, 0));
        bank.refuses("rescue n 0", Bank.ARGUMENT, () -> bank.it.rescue(1, 0, 0));
        bank.refuses("rescue n 121", Bank.ARGUMENT, () -> bank.it.rescue(1, 121, 0));
        bank.refuses("rescue what 2", Bank.ARGUMENT, () -> bank.it.rescue(1, 1, 2));
        bank.refuses("rescue what -1", Bank.ARGUMENT, () -> bank.it.rescue(1, 1, -1));
    }

    private static void askedNothingChanges() {
        Bank bank = four();
        String before = bank.whole();
        for (int n = 1; n <= 120; n += 17) {
            bank.it.ahead(Bank.NONE, n);
            bank.it.letters(n);
            bank.it.rescue(2, n, 0);
            bank.it.soon(1);
        }
        Bank.holds("asked, nothing stays changed", before.equals(bank.whole()));
    }
}
